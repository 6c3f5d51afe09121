/-! OPS: order: the search that stops early finds what the search through all finds -/
def sEq (N : Nat) (s s' : Int32 × Int32 × (Nat → Int32)) : Prop := s.1 = s'.1 ∧ s.2.1 = s'.2.1 ∧ ∀ k, k < N → s.2.2 k = s'.2.2 k
def Mono (g : Hv) (M N n : Nat) (least : Int32) : Prop := ∀ l, inN N l → ∃ A B, least = nI A ∧ lateE g M N n l = nI B ∧ A ≤ B ∧ B < 2 ^ 30
theorem not_bet {g : Hv} {M N n : Nat} {least : Int32} (hm : Mono g M N n least) (hN : N ≤ 6) {l : List Nat} (hl : inN N l) {s : Int32 × Int32 × (Nat → Int32)} (h1 : ¬ least < s.1) (h2 : nI N ≤ s.2.1) : ¬ betS 0 (lateE g M N n l) s.1 (dryE g M N n l) s.2.1 := by
  obtain ⟨A, B, e1, e2, e3, e4⟩ := hm l hl
  have hc := cnt_le (g := tickN M N n (rnk g l)) (w := 2) N
  have ed : dryE g M N n l = nI (cntS (tickN M N n (rnk g l)) 2 N) := rfl
  rw [e1] at h1
  rw [e2, ed]
  have tA : (nI A).toInt = A := nI_toInt (by omega)
  have tB : (nI B).toInt = B := nI_toInt (by omega)
  have tN : (nI N).toInt = N := nI_toInt (by omega)
  have tC : (nI (cntS (tickN M N n (rnk g l)) 2 N)).toInt = cntS (tickN M N n (rnk g l)) 2 N := nI_toInt (by omega)
  rw [Int32.lt_iff_toInt_lt, tA] at h1
  rw [Int32.le_iff_toInt_le, tN] at h2
  rintro (q | q | q)
  · exact q rfl
  · rw [Int32.lt_iff_toInt_lt, tB] at q
    omega
  · have := q.2
    rw [Int32.le_iff_toInt_le, tC] at this
    omega
theorem scA_stop {g : Hv} {M N n : Nat} {least : Int32} (hm : Mono g M N n least) (hN : N ≤ 6) : ∀ (F : Nat) (l : List Nat) (s : Int32 × Int32 × (Nat → Int32)), inN N l → ¬ least < s.1 → nI N ≤ s.2.1 → scA g M N n F l s = s
  | 0, _, _, _, _, _ => rfl
  | F + 1, l, s, hl, h1, h2 => by
    rw [scA]
    cases hz : nextL N l with
    | none => rfl
    | some m =>
      have hm2 := inN_next hl hN hz
      dsimp only
      rw [show trS g M N n 0 m s = s from if_neg (not_bet hm hN hm2 h1 h2)]
      exact scA_stop hm hN F m s hm2 h1 h2
theorem tr_rel {g g' : Hv} {M N n : Nat} (hN : N ≤ 6) (e : ∀ x y, x < 12 → g' x y = g x y) {l l' : List Nat} (ha : ∀ i, i < N → l.getD i 0 = l'.getD i 0) {s s' : Int32 × Int32 × (Nat → Int32)} (hs : sEq N s s') : sEq N (trS g' M N n 0 l s) (trS g M N n 0 l' s') := by
  have e1 : lateE g' M N n l = lateE g M N n l' := lateE_ag hN e (fun i hi => (ha i hi).symm)
  have e2 : dryE g' M N n l = dryE g M N n l' := dryE_ag hN e (fun i hi => (ha i hi).symm)
  unfold trS
  rw [e1, e2, hs.1, hs.2.1]
  split
  · exact ⟨rfl, rfl, fun k hk => by show nI _ = nI _; rw [ha k hk]⟩
  · exact hs
theorem sc_rel {g g' : Hv} {M N n : Nat} {least : Int32} (hm : Mono g M N n least) (hN : N ≤ 6) (hN0 : 0 < N) (e : ∀ x y, x < 12 → g' x y = g x y) : ∀ (F : Nat) (l l' : List Nat) (s s' : Int32 × Int32 × (Nat → Int32)), agN N l l' → inN N l → inN N l' → sEq N s s' → sEq N (scF g' M N n least F l s) (scA g M N n F l' s')
  | 0, _, _, _, _, _, _, _, hs => hs
  | F + 1, l, l', s, s', ha, hl, hl', hs => by
    by_cases hc : least < s.1 ∨ ¬ nI N ≤ s.2.1
    · rw [scF, if_pos hc, scA]
      rcases ag_next hN hN0 ha with ⟨z1, z2⟩ | ⟨m, m', z1, z2, z3⟩
      · rw [z1, z2]; exact hs
      · rw [z1, z2]
        exact sc_rel hm hN hN0 e F m m' _ _ z3 (inN_next hl hN z1) (inN_next hl' hN z2) (tr_rel hN e z3.2.2 hs)
    · have c1 : ¬ least < s'.1 := fun z => hc (Or.inl (by rw [hs.1]; exact z))
      have c2 : nI N ≤ s'.2.1 := Decidable.byContradiction (fun z => hc (Or.inr (by rw [hs.2.1]; exact z)))
      rw [scF, if_neg hc, scA_stop hm hN (F + 1) l' s' hl' c1 c2]
      exact hs
theorem lateAll_ext {N : Nat} {g g' : Hv} (e : ∀ x y, x < 12 → g' x y = g x y) (n : Nat) : lateAllS g' n = lateAllS g n := by
  have h : fz 0 g' = fz 0 g := by
    funext x y
    unfold fz
    split
    · rfl
    · exact e x y (by omega)
  rw [← fz_late (N := 0), h, fz_late]
theorem idL_ord : ordL idL := ⟨rfl, trivial⟩
theorem idL_at : ∀ i, i < 6 → idL.getD i 0 = i := by decide
theorem idL_in {N : Nat} (hN : N ≤ 6) : inN N idL := ⟨idL_ord, fun i hi => by rw [idL_at i (by omega)]; exact hi⟩
def rkL (f : Nat → Int32) : List Nat := (List.range 6).map (fun y => (f y).toUInt32.toNat)
theorem nI_u (x : Int32) : nI x.toUInt32.toNat = x := by
  apply Int32.toBitVec_inj.mp
  show BitVec.ofNat 32 x.toBitVec.toNat = x.toBitVec
  rw [BitVec.ofNat_toNat, BitVec.setWidth_eq]
theorem rkL_g {f : Nat → Int32} {y : Nat} (hy : y < 6) : (rkL f).getD y 0 = (f y).toUInt32.toNat := by
  unfold rkL
  rw [List.getD_eq_getElem?_getD, List.getElem?_map, List.getElem?_range hy]
  rfl
theorem nI_un : ∀ l, l < 6 → (nI l).toUInt32.toNat = l := by decide
theorem rkL_at {f : Nat → Int32} {y l : Nat} (hy : y < 6) (hl : l < 6) (e : f y = nI l) : (rkL f).getD y 0 = l := by
  rw [rkL_g hy, e, nI_un l hl]
theorem HI.ext {M N : Nat} {g g' : Hv} (e : ∀ j b, j < 12 → g' j b = g j b) (h : HI M N g) : HI M N g' := by
  have e0 : ∀ b, g' 0 b = g 0 b := fun b => e 0 b (by decide)
  have e1 : ∀ b, g' 1 b = g 1 b := fun b => e 1 b (by decide)
  have e2 : ∀ b, g' 2 b = g 2 b := fun b => e 2 b (by decide)
  have e3 : ∀ b, g' 3 b = g 3 b := fun b => e 3 b (by decide)
  have e4 : ∀ b, g' 4 b = g 4 b := fun b => e 4 b (by decide)
  have e5 : ∀ b, g' 5 b = g 5 b := fun b => e 5 b (by decide)
  have e6 : ∀ b, g' 6 b = g 6 b := fun b => e 6 b (by decide)
  have e7 : ∀ b, g' 7 b = g 7 b := fun b => e 7 b (by decide)
  have e8 : ∀ b, g' 8 b = g 8 b := fun b => e 8 b (by decide)
  have e9 : ∀ b, g' 9 b = g 9 b := fun b => e 9 b (by decide)
  have e11 : ∀ b, g' 11 b = g 11 b := fun b => e 11 b (by decide)
  unfold HI at *
  simp only [e0, e1, e2, e3, e4, e5, e6, e7, e8, e9, e11]
  exact h
theorem HS.mono {M N n : Nat} {g : Hv} {d s : Nat → Int32} (h : HS M N g d s) (hn : n ≤ 50) : Mono g M N n (lateAllS g N) := by
  obtain ⟨t0, t1, t2, t3⟩ := h.2.2.2.2
  intro l hl
  have hN6 := h.1.hN6
  have q := PF.tickN n t0 (rnk g l) (h.1.rnk hl.2) (PF.rnk (N := N) t2)
  obtain ⟨A, B, e1, e2, e3, e4⟩ := late_mono q (by omega) t2 t3 (fun l hl => by obtain ⟨a, b, -, -, -, z1, z2⟩ := h.1.load l hl; exact ⟨b, z1, z2⟩) N (Nat.le_refl N)
  exact ⟨A, B, e1, e2, e3, by omega⟩
theorem ord_mu {h w w' : Hv} {l : List Nat} {b d : Int32} {bs : Nat → Int32} : ordH (mu h w) l b d bs w' = mu (ordH h l b d bs w') w := by
  funext x y
  by_cases hx : 360 ≤ x ∧ x < 378
  · rw [ordH_o (by omega) (by omega) (by omega) (by omega)]
    unfold mu blk
    rw [if_pos (by omega), if_pos (by omega)]
  · rw [show mu (ordH h l b d bs w') w x y = ordH h l b d bs w' x y from blk_out (by omega)]
    have em : ∀ q, mu h w x q = h x q := fun q => blk_out (by omega)
    unfold ordH
    by_cases h1 : 27 ≤ x ∧ x < 39
    · unfold pu blk
      rw [if_pos (by omega), if_pos (by omega)]
    · rw [pu_out (by omega), pu_out (by omega)]
      unfold setR setF hset
      rw [em]
theorem RelP.ord {h h' w : Hv} {M N i c : Nat} (hR : RelP h w) (hi : i < 24) (hi1 : h 39 2 = nI i) (hS : HS M N (hv h 15) (w 7) (w 8)) (hA : RActs M N h w i c) (oh : ∀ x y, ¬ (27 ≤ x ∧ x ≤ 38) → x ≠ 330 → x ≠ 331 → x ≠ 332 → h' x y = h x y) (hO : ROrd M N h') : RelP h' w := by
  have e15 : hv h' 15 = hv h 15 := hv_eq (fun j b hj => oh _ _ (by omega) (by omega) (by omega) (by omega))
  refine ⟨?_, ?_, ?_, ⟨i, hi, ?_, Or.inr ⟨M, N, c, by rw [e15]; exact hS, ⟨?_, hA.2.1, hA.2.2.1, fun j hj => ?_⟩, hO⟩⟩, ?_, ?_⟩
  · unfold RStat
    rw [oh _ _ (by omega) (by omega) (by omega) (by omega)]
    exact hR.1
  · exact hR.2.1.cg (fun x y h1 h2 => oh _ _ (by omega) (by omega) (by omega) (by omega)) rfl rfl rfl
  · exact hR.2.2.1.cg (fun x y q => oh _ _ (by omega) (by omega) (by omega) (by omega)) rfl rfl rfl
  · rw [oh _ _ (by omega) (by omega) (by omega) (by omega)]; exact hi1
  · rw [oh _ _ (by omega) (by omega) (by omega) (by omega)]; exact hA.1
  · have hlt := Nat.mod_lt (i + 24 - j) (show 0 < 24 by decide)
    rw [hv_eq (h := h) (h' := h') (fun j' b hj' => oh _ _ (by omega) (by omega) (by omega) (by omega))]
    exact hA.2.2.2 j hj
  · exact hR.2.2.2.2.1.cg (fun x y h1 h2 => oh _ _ (by omega) (by omega) (by omega) (by omega)) rfl rfl
  · exact hR.2.2.2.2.2.cg (fun x y q => oh _ _ (by omega) (by omega) (by omega) (by omega)) rfl rfl
theorem p_find {h w : Hv} {M N i c n : Nat} (hR : RelP h w) (hi : i < 24) (hi1 : h 39 2 = nI i) (hS : HS M N (hv h 15) (w 7) (w 8)) (hA : RActs M N h w i c) (hO : ROrd M N h) (hn1 : 1 ≤ n) (hn : n ≤ 50) : MtH M_X3_find 6 [.ref 330, .ref 15, .ref 27, .int (nI n)] (mu h w) (fun v' H' => v' = none ∧ ∃ h', H' = mu h' w ∧ RelP h' w ∧ h' 15 3 = nI N ∧ h' 330 1 = (bestA (hv h 15) M N n).1 ∧ ∀ k, k < N → h' 331 k = (bestA (hv h 15) M N n).2.2 k) := by
  have hN6 := hS.1.hN6
  have hN0 := hS.1.hN0
  have ev : ∀ x y, x < 12 → vw (mu h w) 15 x y = hv h 15 x y := fun x y hx => by
    rw [hv_at hx]
    exact mu_low (by omega)
  have hIv : HI M N (vw (mu h w) 15) := hS.1.ext ev
  have hl0 : ∀ y, y < 6 → hv h 15 11 y = nI ((rkL (hv h 15 11)).getD y 0) := fun y hy => by
    rw [rkL_g hy, nI_u]
  have hlo : ordL (rkL (hv h 15 11)) := ⟨by unfold rkL; rw [List.length_map, List.length_range], trivial⟩
  have hlid : ∀ j, j < N → (rkL (hv h 15 11)).getD j 0 = j := fun j hj => rkL_at (by omega) (by omega) (hS.2.2.1.1 j hj)
  have hlin : inN N (rkL (hv h 15 11)) := ⟨hlo, fun j hj => by rw [hlid j hj]; exact hj⟩
  have hag : agN N (rkL (hv h 15 11)) idL := ⟨hlo, idL_ord, fun j hj => by rw [hlid j hj, idL_at j (by omega)]⟩
  have hN3 : h 15 3 = nI N := (hv_at (by decide)).symm.trans hS.1.hN
  refine MtH.weaken (m_find (h := mu h w) hIv hlin (fun y hy => by rw [mu_low (by decide), ← hl0 y hy, hv_at (by decide)]) rfl (by omega)) ?_
  rintro v' h' ⟨rfl, q⟩
  refine ⟨rfl, ?_⟩
  rcases q with ⟨q1, rfl⟩ | ⟨q1, l', w', rfl⟩
  · rw [mu_low (by decide)] at q1
    rcases hO with z | ⟨m, z1, z2, z3, z4, z5⟩
    · exact absurd (q1.symm.trans z) (nI_ne0 (by omega) (by omega))
    · have em : m = n := nI_inj (z3.symm.trans q1) (by omega) (by omega)
      subst em
      exact ⟨h, rfl, hR, hN3, z4, z5⟩
  · have hsc := sc_rel (hS.mono hn) hN6 hN0 ev 719 (rkL (hv h 15 11)) idL _ _ hag hlin (idL_in hN6) (show sEq N (lateE (vw (mu h w) 15) M N n (rkL (hv h 15 11)), dryE (vw (mu h w) 15) M N n (rkL (hv h 15 11)), lf (rkL (hv h 15 11))) (lateE (hv h 15) M N n idL, dryE (hv h 15) M N n idL, lf idL) from ⟨lateE_ag hN6 ev (fun i hi => (hag.2.2 i hi).symm), dryE_ag hN6 ev (fun i hi => (hag.2.2 i hi).symm), fun k hk => by show nI _ = nI _; rw [hag.2.2 k hk]⟩)
    rw [← lateAll_ext (N := N) ev N] at hsc
    generalize scF (vw (mu h w) 15) M N n (lateAllS (vw (mu h w) 15) N) 719 (rkL (hv h 15 11)) (lateE (vw (mu h w) 15) M N n (rkL (hv h 15 11)), dryE (vw (mu h w) 15) M N n (rkL (hv h 15 11)), lf (rkL (hv h 15 11))) = S at hsc ⊢
    have o15 : ∀ x y, ¬ (27 ≤ x ∧ x ≤ 38) → x ≠ 330 → x ≠ 331 → x ≠ 332 → hset (ordH h l' S.1 S.2.1 S.2.2 w') 330 3 (nI n) x y = h x y := fun x y a b c d => (hs_j b).trans (ordH_o (by omega) b c d)
    have oB : ∀ k, k < 6 → hset (ordH h l' S.1 S.2.1 S.2.2 w') 330 3 (nI n) 331 k = S.2.2 k := fun k hk => by
      rw [hs_j (by decide)]
      unfold ordH
      rw [pu_out (by omega), setR_ne (by decide)]
      unfold setF
      rw [if_pos ⟨rfl, hk⟩]
    have o1 : hset (ordH h l' S.1 S.2.1 S.2.2 w') 330 3 (nI n) 330 1 = S.1 := (hs_b (by decide)).trans ordH_1
    have e15 : hv (hset (ordH h l' S.1 S.2.1 S.2.2 w') 330 3 (nI n)) 15 = hv h 15 := hv_eq (fun j b hj => o15 _ _ (by omega) (by omega) (by omega) (by omega))
    refine ⟨hset (ordH h l' S.1 S.2.1 S.2.2 w') 330 3 (nI n), by rw [ord_mu, mu_hset (by decide)], RelP.ord hR hi hi1 hS hA o15 (Or.inr ⟨n, hn1, hn, hs_at, ?_, fun k hk => ?_⟩), ?_, ?_, fun k hk => ?_⟩
    · rw [o1, e15]; exact hsc.1
    · rw [oB k (by omega), e15]; exact hsc.2.2 k hk
    · rw [o15 _ _ (by omega) (by omega) (by omega) (by omega)]; exact hN3
    · rw [o1]; exact hsc.1
    · rw [oB k (by omega)]; exact hsc.2.2 k hk

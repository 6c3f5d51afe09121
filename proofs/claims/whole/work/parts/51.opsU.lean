/-! OPS: order: what counts of a hall for a forecast -/
def fz (N : Nat) (g : Hv) : Hv := fun x y => if 12 ≤ x ∨ (x = 11 ∧ N ≤ y) then 0 else g x y
theorem fz_at {N x y : Nat} {g : Hv} (hx : x < 11) : fz N g x y = g x y := if_neg (by omega)
theorem fz_11 {N y : Nat} {g : Hv} (hy : y < N) : fz N g 11 y = g 11 y := if_neg (by omega)
theorem fz_set {N j b : Nat} {g : Hv} {v : Int32} (hj : j < 11) : fz N (hset g j b v) = hset (fz N g) j b v := by
  funext x y
  unfold fz hset
  by_cases h1 : x = j ∧ y = b
  · rw [if_pos h1, if_neg (by omega), if_pos h1]
  · rw [if_neg h1, if_neg h1]
theorem fz_lasts {N k l : Nat} {g : Hv} : lastsS (fz N g) k l = lastsS g k l := rfl
theorem fz_out {N k l : Nat} {g : Hv} : fz N (outS g k l) = outS (fz N g) k l := by
  unfold outS
  rw [fz_set (by decide), fz_set (by decide), fz_set (by decide), fz_at (x := 1) (by decide), fz_at (x := 6) (by decide), fz_at (x := 0) (by decide)]
  by_cases h : g 1 k ≤ 3
  · rw [if_pos h, if_pos h, fz_set (by decide)]
  · rw [if_neg h, if_neg h, fz_set (by decide), fz_set (by decide)]
theorem fz_put {N k l : Nat} {g : Hv} : fz N (putS g k l) = putS (fz N g) k l := by
  unfold putS
  rw [fz_set (by decide), fz_set (by decide), fz_set (by decide), fz_lasts]
theorem fz_tk1 {N : Nat} {g : Hv} : ∀ j, fz N (tk1 g j).1 = (tk1 (fz N g) j).1 ∧ (tk1 g j).2 = (tk1 (fz N g) j).2
  | 0 => ⟨rfl, rfl⟩
  | j + 1 => by
    obtain ⟨e1, e2⟩ := fz_tk1 (N := N) (g := g) j
    have r4 : (tk1 (fz N g) j).1 4 j = (tk1 g j).1 4 j := by rw [← e1]; exact fz_at (by decide)
    have r5 : (tk1 (fz N g) j).1 5 j = (tk1 g j).1 5 j := by rw [← e1]; exact fz_at (by decide)
    by_cases e : (tk1 g j).1 4 j = -1
    · rw [tk1_no e, tk1_no (r4.trans e)]; exact ⟨e1, e2⟩
    · have e' : ¬ (tk1 (fz N g) j).1 4 j = -1 := by rw [r4]; exact e
      by_cases f : 0 < (tk1 g j).1 5 j - 1
      · have f' : 0 < (tk1 (fz N g) j).1 5 j - 1 := by rw [r5]; exact f
        rw [tk1_left e f, tk1_left e' f']
        dsimp only
        rw [fz_set (by decide), e1, r5, e2]
        exact ⟨rfl, rfl⟩
      · have f' : ¬ 0 < (tk1 (fz N g) j).1 5 j - 1 := by rw [r5]; exact f
        rw [tk1_out e f, tk1_out e' f']
        dsimp only
        rw [fz_out, fz_set (by decide), e1, r5, r4, e2]
        exact ⟨rfl, rfl⟩
theorem fz_wait {N : Nat} {g : Hv} {w rm : Int32} : ∀ n j, j + n ≤ N → waitF (fz N g) w rm n j = waitF g w rm n j
  | 0, _, _ => rfl
  | n + 1, j, h => by
    rw [waitF, waitF, fz_11 (by omega), fz_at (x := 9) (by decide), fz_at (x := 7) (by decide), fz_wait n (j + 1) (by omega)]
theorem fz_tk2 {N : Nat} {g : Hv} {b : Int32} : ∀ j, fz N (tk2 g b N j).1 = (tk2 (fz N g) b N j).1 ∧ (tk2 g b N j).2 = (tk2 (fz N g) b N j).2
  | 0 => ⟨rfl, rfl⟩
  | j + 1 => by
    obtain ⟨e1, e2⟩ := fz_tk2 (N := N) (g := g) (b := b) j
    have r4 : (tk2 (fz N g) b N j).1 4 j = (tk2 g b N j).1 4 j := by rw [← e1]; exact fz_at (by decide)
    have rw0 : wantS (fz N g) j = wantS g j := by unfold wantS; rw [fz_at (by decide)]
    have hc : tk2c (fz N g) b N j ↔ tk2c g b N j := by
      unfold tk2c
      rw [fz_at (x := 0) (by decide), fz_at (x := 0) (by decide), r4, e2]
    have hw : waitF (tk2 (fz N g) b N j).1 (wantS (fz N g) j) (fz N g 2 j) N 0 = waitF (tk2 g b N j).1 (wantS g j) (g 2 j) N 0 := by
      rw [← e1, rw0, fz_at (x := 2) (by decide), fz_wait N 0 (by omega)]
    by_cases z : tk2c g b N j
    · cases hz : waitF (tk2 g b N j).1 (wantS g j) (g 2 j) N 0 with
      | none => rw [tk2_none hz, tk2_none (hw.trans hz)]; exact ⟨e1, e2⟩
      | some l =>
        rw [tk2_some z hz, tk2_some (hc.mpr z) (hw.trans hz)]
        dsimp only
        rw [fz_put, e1, e2]
        exact ⟨rfl, rfl⟩
    · rw [tk2_no z, tk2_no (fun q => z (hc.mp q))]; exact ⟨e1, e2⟩
theorem fz_tickS {M N : Nat} {g : Hv} : fz N (tickS g M N) = tickS (fz N g) M N := by
  unfold tickS
  have a := fz_tk1 (N := N) (g := g) M
  have b := fz_tk2 (N := N) (g := (tk1 g M).1) (b := (tk1 g M).2) M
  rw [fz_set (by decide), b.1, a.1, a.2]
  congr 1
  rw [← a.1, ← a.2, ← b.1]
  rw [fz_at (by decide)]
theorem fz_tickN {M N : Nat} : ∀ (n : Nat) (g : Hv), fz N (tickN M N n g) = tickN M N n (fz N g)
  | 0, _ => rfl
  | n + 1, g => (fz_tickN n (tickS g M N)).trans (by rw [fz_tickS]; rfl)
theorem fz_late {N : Nat} {g : Hv} : ∀ n, lateAllS (fz N g) n = lateAllS g n
  | 0 => rfl
  | n + 1 => by rw [lateAllS, lateAllS, fz_late n]; rfl
theorem fz_cnt {N : Nat} {g : Hv} {w : Int32} : ∀ n, cntS (fz N g) w n = cntS g w n
  | 0 => rfl
  | n + 1 => by rw [cntS, cntS, fz_cnt n, fz_at (by decide)]
def agN (N : Nat) (l l' : List Nat) : Prop := ordL l ∧ ordL l' ∧ ∀ i, i < N → l.getD i 0 = l'.getD i 0
theorem fz_rnk {N : Nat} (hN : N ≤ 6) {g g' : Hv} {l l' : List Nat} (e : ∀ x y, x < 12 → g' x y = g x y) (h : ∀ i, i < N → l.getD i 0 = l'.getD i 0) : fz N (rnk g' l') = fz N (rnk g l) := by
  funext x y
  unfold fz
  by_cases h1 : 12 ≤ x ∨ (x = 11 ∧ N ≤ y)
  · rw [if_pos h1, if_pos h1]
  · rw [if_neg h1, if_neg h1]
    by_cases hx : x = 11
    · subst hx
      unfold rnk
      rw [if_pos ⟨rfl, by omega⟩, if_pos ⟨rfl, by omega⟩, h y (by omega)]
    · rw [rnk_j hx, rnk_j hx, e x y (by omega)]
theorem lateE_ag {M N n : Nat} (hN : N ≤ 6) {g g' : Hv} {l l' : List Nat} (e : ∀ x y, x < 12 → g' x y = g x y) (h : ∀ i, i < N → l.getD i 0 = l'.getD i 0) : lateE g' M N n l' = lateE g M N n l := by
  unfold lateE
  rw [← fz_late, ← fz_late (g := tickN M N n (rnk g l)), fz_tickN, fz_tickN, fz_rnk hN e h]
theorem dryE_ag {M N n : Nat} (hN : N ≤ 6) {g g' : Hv} {l l' : List Nat} (e : ∀ x y, x < 12 → g' x y = g x y) (h : ∀ i, i < N → l.getD i 0 = l'.getD i 0) : dryE g' M N n l' = dryE g M N n l := by
  unfold dryE
  rw [← fz_cnt, ← fz_cnt (g := tickN M N n (rnk g l)), fz_tickN, fz_tickN, fz_rnk hN e h]
/-! the next order looks at the first N alone -/
theorem ag_dsc {N : Nat} {l l' : List Nat} (h : agN N l l') : ∀ k, k < N → dscL l' k = dscL l k
  | 0, _ => rfl
  | k + 1, hk => by rw [dscL, dscL, h.2.2 k (by omega), h.2.2 (k + 1) hk, ag_dsc h k (by omega)]
theorem ag_fnd {N : Nat} {l l' : List Nat} (h : agN N l l') {v lo : Nat} : ∀ w, w < N → fndL l' v lo w = fndL l v lo w
  | 0, _ => rfl
  | w + 1, hw => by rw [fndL, fndL, h.2.2 (w + 1) hw, ag_fnd h w (by omega)]
theorem ag_swap {N : Nat} (hN : N ≤ 6) {l l' : List Nat} (h : agN N l l') {a b : Nat} (ha : a < N) (hb : b < N) : agN N (swapL l a b) (swapL l' a b) := by
  refine ⟨ordL_swap h.1 (by omega) (by omega), ordL_swap h.2.1 (by omega) (by omega), fun i hi => ?_⟩
  rw [swapL_get h.1.1 (by omega) (by omega), swapL_get h.2.1.1 (by omega) (by omega), h.2.2 a ha, h.2.2 b hb, h.2.2 i hi]
theorem ag_rev {N : Nat} (hN : N ≤ 6) : ∀ (m a b : Nat) (l l' : List Nat), agN N l l' → b < N → agN N (revL m a b l) (revL m a b l')
  | 0, _, _, _, _, h, _ => h
  | m + 1, a, b, l, l', h, hb => by
    rw [revL, revL]
    by_cases z : a < b
    · rw [if_pos z, if_pos z]
      exact ag_rev hN m _ _ _ _ (ag_swap hN h (by omega) hb) (by omega)
    · rw [if_neg z, if_neg z]; exact h
theorem ag_next {N : Nat} (hN : N ≤ 6) (hN0 : 0 < N) {l l' : List Nat} (h : agN N l l') : (nextL N l = none ∧ nextL N l' = none) ∨ ∃ m m', nextL N l = some m ∧ nextL N l' = some m' ∧ agN N m m' := by
  unfold nextL
  rw [ag_dsc h (N - 1) (by omega)]
  cases hd : dscL l (N - 1) with
  | none => exact Or.inl ⟨rfl, rfl⟩
  | some k =>
    have h1 := dscL_lt l _ _ hd
    have h2 := fndL_le l (l.getD k 0) (k + 1) (N - 1)
    refine Or.inr ⟨_, _, rfl, rfl, ?_⟩
    rw [← h.2.2 k (by omega), ag_fnd h (N - 1) (by omega)]
    exact ag_rev hN 3 _ _ _ _ (ag_swap hN h (by omega) (by omega)) (by omega)
/-! no load gets less late -/
def PF (N t0 t : Nat) (g0 g : Hv) : Prop := g 0 1 = nI t ∧ t0 ≤ t ∧ ∀ l, l < N → g 8 l = g0 8 l ∧ (g0 9 l = 2 → g 9 l = 2 ∧ g 10 l = g0 10 l) ∧ (¬ g0 9 l = 2 → g 9 l = 2 → ∃ e, t0 ≤ e ∧ e ≤ t ∧ g 10 l = nI e)
theorem PF.s5 {N t0 t k : Nat} {g0 g : Hv} {v : Int32} (h : PF N t0 t g0 g) : PF N t0 t g0 (hset g 5 k v) := h
theorem PF.out {N t0 t k l : Nat} {g0 g : Hv} (h : PF N t0 t g0 g) (h9 : ¬ g 9 l = 2) : PF N t0 t g0 (outS g k l) := by
  unfold PF outS
  simp only [hs_j (show (0 : Nat) ≠ 4 by decide), hs_j (show (0 : Nat) ≠ 5 by decide), hs_j (show (0 : Nat) ≠ 6 by decide), hs_j (show (8 : Nat) ≠ 4 by decide), hs_j (show (8 : Nat) ≠ 5 by decide), hs_j (show (8 : Nat) ≠ 6 by decide), hs_j (show (9 : Nat) ≠ 4 by decide), hs_j (show (9 : Nat) ≠ 5 by decide), hs_j (show (9 : Nat) ≠ 6 by decide), hs_j (show (10 : Nat) ≠ 4 by decide), hs_j (show (10 : Nat) ≠ 5 by decide), hs_j (show (10 : Nat) ≠ 6 by decide)]
  by_cases hw : g 1 k ≤ 3
  · simp only [if_pos hw, hs_j (show (0 : Nat) ≠ 9 by decide), hs_j (show (8 : Nat) ≠ 9 by decide), hs_j (show (10 : Nat) ≠ 9 by decide)]
    refine ⟨h.1, h.2.1, fun q hq => ?_⟩
    obtain ⟨a, b, c⟩ := h.2.2 q hq
    refine ⟨a, fun z => ?_, fun z y => ?_⟩
    · by_cases e : q = l
      · subst e; exact absurd (b z).1 h9
      · rw [hs_b e]; exact b z
    · by_cases e : q = l
      · subst e; rw [hs_at] at y; exact absurd y (by decide)
      · rw [hs_b e] at y; exact c z y
  · simp only [if_neg hw, hs_j (show (0 : Nat) ≠ 9 by decide), hs_j (show (0 : Nat) ≠ 10 by decide), hs_j (show (8 : Nat) ≠ 9 by decide), hs_j (show (8 : Nat) ≠ 10 by decide), hs_j (show (9 : Nat) ≠ 10 by decide)]
    refine ⟨h.1, h.2.1, fun q hq => ?_⟩
    obtain ⟨a, b, c⟩ := h.2.2 q hq
    refine ⟨a, fun z => ?_, fun z y => ?_⟩
    · by_cases e : q = l
      · subst e; exact absurd (b z).1 h9
      · rw [hs_b e, hs_b e, hs_j (by decide)]; exact b z
    · by_cases e : q = l
      · subst e; rw [hs_at]; exact ⟨t, h.2.1, Nat.le_refl t, h.1⟩
      · rw [hs_b e] at y; rw [hs_b e, hs_j (by decide)]; exact c z y
theorem PF.put {N t0 t k l : Nat} {g0 g : Hv} (hk : k < 5) (h : PF N t0 t g0 g) (h9 : ¬ g 9 l = 2) : PF N t0 t g0 (putS g k l) := by
  unfold PF putS
  simp only [hs_j (show (0 : Nat) ≠ 4 by decide), hs_j (show (0 : Nat) ≠ 5 by decide), hs_j (show (0 : Nat) ≠ 9 by decide), hs_j (show (8 : Nat) ≠ 4 by decide), hs_j (show (8 : Nat) ≠ 5 by decide), hs_j (show (8 : Nat) ≠ 9 by decide), hs_j (show (9 : Nat) ≠ 5 by decide), hs_j (show (10 : Nat) ≠ 4 by decide), hs_j (show (10 : Nat) ≠ 5 by decide), hs_j (show (10 : Nat) ≠ 9 by decide)]
  refine ⟨h.1, h.2.1, fun q hq => ?_⟩
  obtain ⟨a, b, c⟩ := h.2.2 q hq
  refine ⟨a, fun z => ?_, fun z y => ?_⟩
  · by_cases e : q = l
    · subst e; exact absurd (b z).1 h9
    · rw [hs_b e, hs_j (by decide)]; exact b z
  · by_cases e : q = l
    · subst e
      rw [hs_at, show (10 : Int32) + nI k = nI (10 + k) from nI_add 10 k] at y
      have := nI_inj (a := 10 + k) (b := 2) y (by omega) (by decide)
      omega
    · rw [hs_b e, hs_j (by decide)] at y; exact c z y
theorem PF.t1 {M N t0 t : Nat} {g0 g : Hv} (hI : HI M N g) (h : PF N t0 t g0 g) : ∀ j, j ≤ M → PF N t0 t g0 (tk1 g j).1
  | 0, _ => h
  | j + 1, hj => by
    have ih := PF.t1 hI h j (by omega)
    have hI2 := hI.tk1 j (by omega)
    have hM5 := hI.hM5
    have hN6 := hI.hN6
    by_cases e : (tk1 g j).1 4 j = -1
    · rw [tk1_no e]; exact ih
    · by_cases e2 : 0 < (tk1 g j).1 5 j - 1
      · rw [tk1_left e e2]; exact ih.s5
      · rw [tk1_out e e2]
        rcases hI2.hold j (by omega) with z | ⟨l, u, z1, z2, z3, z4, z5, z6⟩
        · exact absurd z.1 e
        · dsimp only
          rw [z4, nI_clamp (by omega)]
          refine ih.s5.out ?_
          rw [hs_j (by decide), z6]
          intro q
          have := nI_inj (a := 10 + j) (b := 2) q (by omega) (by decide)
          omega
theorem PF.t2 {M N t0 t : Nat} {g0 g : Hv} {b : Int32} (hI : HI M N g) (h : PF N t0 t g0 g) : ∀ j, j ≤ M → PF N t0 t g0 (tk2 g b N j).1
  | 0, _ => h
  | j + 1, hj => by
    have ih := PF.t2 (b := b) hI h j (by omega)
    have hI2 := hI.tk2 (b := b) j (by omega)
    have hM5 := hI.hM5
    rcases tk2_cases g b N j with e | ⟨l, -, hw, e⟩
    · rw [e]; exact ih
    · rw [e]
      obtain ⟨hl, h9, -⟩ := waitF_some hI2 N 0 (by omega) l hw
      refine ih.put (by omega) ?_
      rw [h9]
      unfold wantS
      split <;> decide
theorem PF.tick {M N t0 t : Nat} {g0 g : Hv} (hI : HI M N g) (h : PF N t0 t g0 g) : PF N t0 (t + 1) g0 (tickS g M N) := by
  have q := (h.t1 hI M (Nat.le_refl M)).t2 (b := (tk1 g M).2) (hI.tk1 M (Nat.le_refl M)) M (Nat.le_refl M)
  unfold tickS
  refine ⟨by rw [hs_at, q.1, nI_1], by have := q.2.1; omega, fun l hl => ?_⟩
  obtain ⟨a, b, c⟩ := q.2.2 l hl
  rw [hs_j (by decide), hs_j (by decide), hs_j (by decide)]
  refine ⟨a, b, fun z y => ?_⟩
  obtain ⟨e, e1, e2, e3⟩ := c z y
  exact ⟨e, e1, by omega, e3⟩
theorem PF.tickN {M N t0 : Nat} {g0 : Hv} : ∀ (n t : Nat) (g : Hv), HI M N g → PF N t0 t g0 g → PF N t0 (t + n) g0 (Jvm.Pilot.@@N@@.tickN M N n g)
  | 0, _, _, _, h => h
  | n + 1, t, g, hI, h => by
    have q := PF.tickN n (t + 1) (tickS g M N) hI.tickS (h.tick hI)
    rw [show t + (n + 1) = t + 1 + n by omega]
    exact q
theorem late_n {a d : Nat} (ha : a < 2 ^ 30) (hd : d < 2 ^ 30) : (if 0 < nI a - nI d then nI a - nI d else 0) = nI (a - d) := by
  by_cases h : d < a
  · rw [pk_sub (by omega), if_pos (show (0 : Int32) < nI (a - d) from (nI_ltI (a := 0) (b := a - d) (by decide) (by omega)).mpr (by omega))]
  · rw [show a - d = 0 by omega]
    by_cases h2 : a = d
    · subst h2
      rw [Int32.sub_self]
      rfl
    · rw [if_neg]
      · rfl
      · rw [Int32.lt_iff_toInt_lt]
        have e : (nI a - nI d).toInt = (a : Int) - d := by
          have e1 : nI d - nI a = nI (d - a) := pk_sub (by omega)
          have e2 : nI a - nI d = - nI (d - a) := by rw [← e1, Int32.neg_sub]
          rw [e2, Int32.toInt_neg, nI_toInt (by omega)]
          have : (-((d - a : Nat) : Int)).bmod (2 ^ 32) = -((d - a : Nat) : Int) := by
            apply Int.bmod_eq_of_le <;> omega
          rw [this]
          omega
        rw [e]
        have e0 : (0 : Int32).toInt = 0 := by decide
        rw [e0]
        omega
theorem late_mono {N t0 t : Nat} {g0 g : Hv} (h : PF N t0 t g0 g) (ht : t < 2000) (h0 : g0 0 1 = nI t0) (hE : ∀ l, l < N → g0 9 l = 2 → ∃ e, e ≤ t0 ∧ g0 10 l = nI e) (hD : ∀ l, l < N → ∃ b, b ≤ 99 ∧ g0 8 l = nI b) : ∀ j, j ≤ N → ∃ A B, lateAllS g0 j = nI A ∧ lateAllS g j = nI B ∧ A ≤ B ∧ B ≤ j * 2000
  | 0, _ => ⟨0, 0, rfl, rfl, Nat.le_refl 0, Nat.zero_le _⟩
  | j + 1, hj => by
    obtain ⟨A, B, e1, e2, e3, e4⟩ := late_mono h ht h0 hE hD j (by omega)
    obtain ⟨a, b, c⟩ := h.2.2 j (by omega)
    obtain ⟨d, hd, ed⟩ := hD j (by omega)
    have h2 := h.2.1
    rw [lateAllS, lateAllS, e1, e2]
    unfold lateS
    rw [a, ed, h.1, h0]
    by_cases z : g0 9 j = 2
    · obtain ⟨e, he, ee⟩ := hE j (by omega) z
      obtain ⟨b1, b2⟩ := b z
      rw [if_pos z, if_pos b1, b2, ee, late_n (by omega) (by omega)]
      exact ⟨A + (e - d), B + (e - d), by rw [nI_add], by rw [nI_add], by omega, by omega⟩
    · rw [if_neg z, late_n (by omega) (by omega)]
      by_cases y : g 9 j = 2
      · obtain ⟨e, he1, he2, ee⟩ := c z y
        rw [if_pos y, ee, late_n (by omega) (by omega)]
        exact ⟨A + (t0 - d), B + (e - d), by rw [nI_add], by rw [nI_add], by omega, by omega⟩
      · rw [if_neg y, late_n (by omega) (by omega)]
        exact ⟨A + (t0 - d), B + (t - d), by rw [nI_add], by rw [nI_add], by omega, by omega⟩
theorem PF.rnk {N t0 : Nat} {g : Hv} {l : List Nat} (h0 : g 0 1 = nI t0) : PF N t0 t0 g (Jvm.Pilot.@@N@@.rnk g l) := by
  have ej : ∀ x q, x ≠ 11 → Jvm.Pilot.@@N@@.rnk g l x q = g x q := fun x q hx => rnk_j hx
  refine ⟨(ej _ _ (by decide)).trans h0, Nat.le_refl _, fun q hq => ?_⟩
  rw [ej 8 _ (by decide), ej 9 _ (by decide), ej 10 _ (by decide)]
  exact ⟨rfl, fun z => ⟨z, rfl⟩, fun z y => absurd y z⟩
theorem cnt_le {g : Hv} {w : Int32} : ∀ n, cntS g w n ≤ n
  | 0 => Nat.le_refl 0
  | n + 1 => by
    have := cnt_le (g := g) (w := w) n
    rw [cntS]
    split <;> omega

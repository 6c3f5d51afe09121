/-! a tick keeps the standing; behind a tick all is settled; quiet ticks -/
theorem left_ok {M N : Nat} {g : Hv} (h : HI M N g) {k : Nat} (hk : k < M) (hh : ¬ g 4 k = -1) : ∃ l t, l < N ∧ 1 ≤ t ∧ t < 1000 ∧ g 4 k = nI l ∧ g 5 k = nI t ∧ g 5 k - 1 = nI (t - 1) := by
  rcases h.hold k hk with z | ⟨l, t, h1, h2, h3, h4, h5, -⟩
  · exact absurd z.1 hh
  · exact ⟨l, t, h1, h2, h3, h4, h5, by rw [h5, show (1 : Int32) = nI 1 from rfl, pk_sub h2]⟩
theorem HI.tk1 {M N : Nat} {g : Hv} (h : HI M N g) : ∀ j, j ≤ M → HI M N (tk1 g j).1
  | 0, _ => h
  | j + 1, hj => by
    have ih := HI.tk1 h j (by omega)
    have hN6 := h.hN6
    by_cases e : (Jvm.Pilot.@@N@@.tk1 g j).1 4 j = -1
    · rw [tk1_no e]
      exact ih
    · obtain ⟨l, t, h1, h2, h3, h4, h5, h6⟩ := left_ok ih (by omega) e
      by_cases e2 : 0 < (Jvm.Pilot.@@N@@.tk1 g j).1 5 j - 1
      · rw [tk1_left e e2, h6]
        refine ih.left (by omega) ?_ (by omega) e
        rw [h6] at e2
        have := (nI_ltI (a := 0) (by decide) (by omega)).mp e2
        omega
      · rw [tk1_out e e2, h4, nI_clamp (by omega)]
        exact ih.out (by omega) h4 h1
theorem waitF_some {g : Hv} {w rm : Int32} {M N : Nat} (h : HI M N g) : ∀ (n j : Nat), j + n = N → ∀ l, waitF g w rm n j = some l → l < N ∧ g 9 l = w ∧ ¬ rm < g 7 l
  | 0, _, _, _, e => by cases e
  | n + 1, j, hj, l, e => by
    rw [waitF] at e
    split at e
    · rename_i hc
      cases e
      obtain ⟨q, hq, er⟩ := h.rank j (by omega)
      have hN6 := h.hN6
      have : (g 11 j).toNatClampNeg = q := by rw [er]; exact nI_clamp (by omega)
      rw [this] at hc ⊢
      exact ⟨hq, hc.1, hc.2⟩
    · exact waitF_some h n (j + 1) (by omega) l e
theorem want_01 (g : Hv) (k : Nat) : wantS g k = 0 ∨ wantS g k = 1 := by
  unfold wantS
  split
  · exact Or.inl rfl
  · exact Or.inr rfl
theorem HI.tk2 {M N : Nat} {g : Hv} {b : Int32} (h : HI M N g) : ∀ j, j ≤ M → HI M N (tk2 g b N j).1
  | 0, _ => h
  | j + 1, hj => by
    have ih := HI.tk2 (b := b) h j (by omega)
    rcases tk2_cases g b N j with e | ⟨l, hc, hw, e⟩
    · rw [e]
      exact ih
    · rw [e]
      obtain ⟨h1, h2, -⟩ := waitF_some ih N 0 (by omega) l hw
      refine ih.put (by omega) hc.2.1 h1 ?_
      rw [h2]
      exact want_01 g j
theorem HI.tickS {M N : Nat} {g : Hv} (h : HI M N g) : HI M N (tickS g M N) := ((h.tk1 M (Nat.le_refl M)).tk2 M (Nat.le_refl M)).tick _
def tickN (M N : Nat) : Nat → Hv → Hv
  | 0, g => g
  | n + 1, g => tickN M N n (tickS g M N)
theorem HI.tickN {M N : Nat} : ∀ (n : Nat) {g : Hv}, HI M N g → HI M N (tickN M N n g)
  | 0, _, h => h
  | n + 1, _, h => HI.tickN n h.tickS
theorem tickN_add (M N : Nat) : ∀ (a b : Nat) (g : Hv), tickN M N (a + b) g = tickN M N b (tickN M N a g)
  | 0, b, g => by rw [Nat.zero_add]; rfl
  | a + 1, b, g => by
    rw [show a + 1 + b = (a + b) + 1 by omega]
    exact tickN_add M N a b (tickS g M N)
/-- how many are at work -/
def bzS (g : Hv) : Nat → Int32
  | 0 => 0
  | m + 1 => if g 4 m = -1 then bzS g m else bzS g m + 1
theorem bzS_congr {g g' : Hv} : ∀ m, (∀ k, k < m → g' 4 k = g 4 k) → bzS g' m = bzS g m
  | 0, _ => rfl
  | m + 1, h => by
    rw [bzS, bzS, h m (by omega), bzS_congr m (fun k hk => h k (by omega))]
theorem tk1_4lt {g : Hv} {j k : Nat} (hk : k < j) : ∀ n, (tk1 g (j + n)).1 4 k = (tk1 g j).1 4 k
  | 0 => rfl
  | n + 1 => by
    rw [show j + (n + 1) = (j + n) + 1 by omega]
    have ih := tk1_4lt (g := g) hk n
    by_cases h : (tk1 g (j + n)).1 4 (j + n) = -1
    · rw [tk1_no h]
      exact ih
    · by_cases h2 : 0 < (tk1 g (j + n)).1 5 (j + n) - 1
      · rw [tk1_left h h2]
        dsimp only
        rw [hs_j (by decide)]
        exact ih
      · rw [tk1_out h h2]
        dsimp only
        rw [outS_4 (by omega), hs_j (by decide)]
        exact ih
theorem tk1_bz {M N : Nat} {g : Hv} (h : HI M N g) : ∀ j, j ≤ M → (tk1 g j).2 = bzS (tk1 g j).1 j
  | 0, _ => rfl
  | j + 1, hj => by
    have ih := tk1_bz h j (by omega)
    have hc : bzS (tk1 g (j + 1)).1 j = bzS (tk1 g j).1 j := bzS_congr j (fun k hk => tk1_4lt (j := j) hk 1)
    rw [bzS, hc, ← ih]
    by_cases e : (tk1 g j).1 4 j = -1
    · rw [tk1_no e, if_pos e]
    · by_cases e2 : 0 < (tk1 g j).1 5 j - 1
      · have e4 : (tk1 g (j + 1)).1 4 j = (tk1 g j).1 4 j := by
          rw [tk1_left e e2]
          dsimp only
          rw [hs_j (by decide)]
        rw [if_neg (fun z => e (e4.symm.trans z)), tk1_left e e2]
      · have e4 : (tk1 g (j + 1)).1 4 j = -1 := by
          rw [tk1_out e e2]
          show outS _ j _ 4 j = -1
          unfold outS
          rw [hs_j (by decide), hs_j (by decide), hs_at]
        rw [if_pos e4, tk1_out e e2]
theorem bzS_put {g : Hv} {k l : Nat} (he : g 4 k = -1) (hl : l < 2 ^ 31) : ∀ m, bzS (putS g k l) m = if k < m then bzS g m + 1 else bzS g m
  | 0 => by
    rw [if_neg (by omega)]
    rfl
  | m + 1 => by
    have ih := bzS_put he hl m
    rw [bzS, bzS, ih]
    by_cases e : m = k
    · subst e
      have e4 : putS g m l 4 m = nI l := by
        unfold putS
        rw [hs_j (by decide), hs_j (by decide), hs_at]
      rw [e4, if_neg (nI_ne_m1 hl), if_neg (by omega), if_pos (by omega), if_pos he]
    · rw [putS_4 e]
      by_cases h4 : g 4 m = -1
      · rw [if_pos h4, if_pos h4]
        by_cases h1 : k < m
        · rw [if_pos h1, if_pos (show k < m + 1 by omega)]
        · rw [if_neg h1, if_neg (show ¬ k < m + 1 by omega)]
      · rw [if_neg h4, if_neg h4]
        by_cases h1 : k < m
        · rw [if_pos h1, if_pos (show k < m + 1 by omega)]
        · rw [if_neg h1, if_neg (show ¬ k < m + 1 by omega)]
theorem tk2_bz {M N : Nat} {g : Hv} {b : Int32} (h : HI M N g) (hb : b = bzS g M) : ∀ j, j ≤ M → (tk2 g b N j).2 = bzS (tk2 g b N j).1 M
  | 0, _ => hb
  | j + 1, hj => by
    have ih := tk2_bz h hb j (by omega)
    rcases tk2_cases g b N j with e | ⟨l, hc, hw, e⟩
    · rw [e]
      exact ih
    · rw [e]
      have hl := (waitF_some (h.tk2 j (by omega)) N 0 (by omega) l hw).1
      have hN6 := h.hN6
      rw [bzS_put hc.2.1 (by omega), if_pos (by omega), ih]
/-- nothing can go in -/
def ST (M N : Nat) (g : Hv) : Prop := ∀ k, k < M → ¬ (¬ g 0 0 ≤ bzS g M ∧ g 4 k = -1 ∧ g 0 4 >>> (nI k &&& 31) &&& 1 = 1) ∨ waitF g (wantS g k) (g 2 k) N 0 = none
theorem waitF_congr {g g' : Hv} {w rm : Int32} (h9 : ∀ y, g' 9 y = g 9 y) (h7 : ∀ y, g' 7 y = g 7 y) (h11 : ∀ y, g' 11 y = g 11 y) : ∀ n j, waitF g' w rm n j = waitF g w rm n j
  | 0, _ => rfl
  | n + 1, j => by
    rw [waitF, waitF, h11, h9, h7, waitF_congr h9 h7 h11 n (j + 1)]
theorem waitF_put {g : Hv} {w rm : Int32} {k l : Nat} (hw : w = 0 ∨ w = 1) (hk : k < 5) : ∀ n j, waitF g w rm n j = none → waitF (putS g k l) w rm n j = none
  | 0, _, _ => rfl
  | n + 1, j, h => by
    rw [waitF] at h ⊢
    rw [show putS g k l 11 j = g 11 j from putS_j (by decide) (by decide) (by decide), show putS g k l 7 (g 11 j).toNatClampNeg = g 7 (g 11 j).toNatClampNeg from putS_j (by decide) (by decide) (by decide)]
    split at h
    · cases h
    · rename_i hc
      rw [if_neg]
      · exact waitF_put hw hk n (j + 1) h
      · intro q
        by_cases e : (g 11 j).toNatClampNeg = l
        · rw [e] at q
          have e9 : putS g k l 9 l = nI (10 + k) := by
            unfold putS
            rw [hs_j (by decide), hs_at]
            exact nI_add 10 k
          rw [e9] at q
          rcases hw with z | z
          · have := nI_inj (b := 0) (q.1.trans z)
            omega
          · have := nI_inj (b := 1) (q.1.trans z)
            omega
        · have e9 : putS g k l 9 (g 11 j).toNatClampNeg = g 9 (g 11 j).toNatClampNeg := by
            unfold putS
            rw [hs_j (by decide), hs_b e, hs_j (by decide)]
          rw [e9] at q
          exact hc q
theorem tk2_set {M N : Nat} {g : Hv} {b : Int32} (h : HI M N g) (hb : b = bzS g M) : ∀ j, j ≤ M → ∀ k, k < j → ¬ (¬ g 0 0 ≤ (tk2 g b N j).2 ∧ (tk2 g b N j).1 4 k = -1 ∧ g 0 4 >>> (nI k &&& 31) &&& 1 = 1) ∨ waitF (tk2 g b N j).1 (wantS g k) (g 2 k) N 0 = none
  | 0, _, k, hk => by omega
  | j + 1, hj, k, hk => by
    have hM5 := h.hM5
    have hN6 := h.hN6
    have ih := tk2_set h hb j (by omega)
    by_cases hc : tk2c g b N j
    · cases hw : waitF (tk2 g b N j).1 (wantS g j) (g 2 j) N 0 with
      | none =>
        rw [tk2_none hw]
        by_cases e : k = j
        · subst e
          exact Or.inr hw
        · exact ih k (by omega)
      | some l =>
        have hl := (waitF_some (h.tk2 j (by omega)) N 0 (by omega) l hw).1
        rw [tk2_some hc hw]
        dsimp only
        by_cases e : k = j
        · subst e
          refine Or.inl (fun q => ?_)
          have e4 : putS (tk2 g b N k).1 k l 4 k = nI l := by
            unfold putS
            rw [hs_j (by decide), hs_j (by decide), hs_at]
          rw [e4] at q
          exact nI_ne_m1 (by omega) q.2.1
        · rw [putS_4 e]
          rcases ih k (by omega) with z | z
          · exact Or.inl (fun q => z ⟨hc.1, q.2⟩)
          · exact Or.inr (waitF_put (want_01 g k) (by omega) N 0 z)
    · rw [tk2_no hc]
      by_cases e : k = j
      · subst e
        exact Or.inl hc
      · exact ih k (by omega)
theorem ST_tick {M N : Nat} {g : Hv} (h : HI M N g) : ST M N (tickS g M N) := by
  intro k hk
  have h1 := h.tk1 M (Nat.le_refl M)
  have hb := tk1_bz h M (Nat.le_refl M)
  have hz := tk2_set (b := (tk1 g M).2) h1 hb M (Nat.le_refl M) k hk
  have hbz := tk2_bz (b := (tk1 g M).2) h1 hb M (Nat.le_refl M)
  unfold tickS
  generalize hG : tk2 (tk1 g M).1 (tk1 g M).2 N M = G at hz hbz
  have f0 : ∀ y, G.1 0 y = (tk1 g M).1 0 y := fun y => by rw [← hG]; exact tk2_j (by decide) (by decide) (by decide) M
  have f1 : ∀ y, G.1 1 y = (tk1 g M).1 1 y := fun y => by rw [← hG]; exact tk2_j (by decide) (by decide) (by decide) M
  have f2 : ∀ y, G.1 2 y = (tk1 g M).1 2 y := fun y => by rw [← hG]; exact tk2_j (by decide) (by decide) (by decide) M
  have c0 : ∀ x y, x ≠ 0 → hset G.1 0 1 (G.1 0 1 + 1) x y = G.1 x y := fun x y hx => hs_j hx
  rw [show hset G.1 0 1 (G.1 0 1 + 1) 0 0 = G.1 0 0 from hs_b (by decide), show hset G.1 0 1 (G.1 0 1 + 1) 0 4 = G.1 0 4 from hs_b (by decide), c0 4 k (by decide), c0 2 k (by decide), bzS_congr (g := G.1) M (fun y _ => c0 4 y (by decide)), waitF_congr (g := G.1) (fun y => c0 9 y (by decide)) (fun y => c0 7 y (by decide)) (fun y => c0 11 y (by decide))]
  have hw : wantS (hset G.1 0 1 (G.1 0 1 + 1)) k = wantS (tk1 g M).1 k := by
    unfold wantS
    rw [c0 1 k (by decide), f1]
  rw [hw, f0, f0, f2, ← hbz]
  exact hz
/-- quiet ticks: the lefts and the tick alone -/
def qd (g : Hv) (M : Nat) (q : Int32) : Hv := fun x y => if x = 0 ∧ y = 1 then g 0 1 + q else if x = 5 ∧ y < M ∧ ¬ g 4 y = -1 then g 5 y - q else g x y
theorem qd_j {g : Hv} {M : Nat} {q : Int32} {x y : Nat} (h5 : x ≠ 5) (h0 : ¬ (x = 0 ∧ y = 1)) : qd g M q x y = g x y := by
  unfold qd
  rw [if_neg h0, if_neg (fun z => h5 z.1)]
theorem pqS_qd {g : Hv} {q : Int32} : ∀ m, pqS g q m = qd g m q
  | 0 => by
    funext x y
    unfold pqS hset qd
    by_cases h : x = 0 ∧ y = 1
    · rw [if_pos h, if_pos h]
    · rw [if_neg h, if_neg h, if_neg (fun z => by have := z.2.1; omega)]
  | m + 1 => by
    rw [pqS, pqS_qd m]
    have h4 : qd g m q 4 m = g 4 m := qd_j (by decide) (by omega)
    rw [h4]
    funext x y
    by_cases h : g 4 m = -1
    · rw [if_pos h]
      unfold qd
      by_cases h1 : x = 0 ∧ y = 1
      · rw [if_pos h1, if_pos h1]
      · rw [if_neg h1, if_neg h1]
        by_cases h2 : x = 5 ∧ y < m ∧ ¬ g 4 y = -1
        · rw [if_pos h2, if_pos ⟨h2.1, by omega, h2.2.2⟩]
        · rw [if_neg h2, if_neg (fun z => h2 ⟨z.1, by
            rcases Nat.lt_or_ge y m with r | r
            · exact r
            · have : y = m := by omega
              rw [this] at z
              exact absurd h z.2.2, z.2.2⟩)]
    · rw [if_neg h]
      unfold hset
      by_cases e : x = 5 ∧ y = m
      · rw [if_pos e]
        unfold qd
        rw [if_neg (by omega), if_neg (fun z => by have := z.2.1; omega), if_neg (by omega), if_pos ⟨e.1, by omega, by rw [e.2]; exact h⟩, e.2]
      · rw [if_neg e]
        unfold qd
        by_cases h1 : x = 0 ∧ y = 1
        · rw [if_pos h1, if_pos h1]
        · rw [if_neg h1, if_neg h1]
          by_cases h2 : x = 5 ∧ y < m ∧ ¬ g 4 y = -1
          · rw [if_pos h2, if_pos ⟨h2.1, by omega, h2.2.2⟩]
          · rw [if_neg h2, if_neg (fun z => h2 ⟨z.1, by omega, z.2.2⟩)]
theorem qd_qd {g : Hv} {M : Nat} {a b : Int32} : qd (qd g M a) M b = qd g M (a + b) := by
  funext x y
  have h4 : ∀ y, qd g M a 4 y = g 4 y := fun y => qd_j (by decide) (by omega)
  unfold qd
  by_cases h1 : x = 0 ∧ y = 1
  · rw [if_pos h1, if_pos h1, if_pos ⟨rfl, rfl⟩]
    exact Int32.add_assoc _ _ _
  · rw [if_neg h1, if_neg h1]
    have h4' := h4 y
    unfold qd at h4'
    rw [h4']
    by_cases h2 : x = 5 ∧ y < M ∧ ¬ g 4 y = -1
    · rw [if_pos h2, if_pos h2, if_neg (show ¬ (5 = 0 ∧ y = 1) by omega), if_pos ⟨rfl, h2.2⟩, if_neg h1]
      exact Int32.sub_sub _ _ _
    · rw [if_neg h2, if_neg h2, if_neg h1, if_neg h2]
theorem tk1_quiet {g : Hv} : ∀ j, (∀ k, k < j → ¬ g 4 k = -1 → 0 < g 5 k - 1) → tk1 g j = (fun x y => if x = 5 ∧ y < j ∧ ¬ g 4 y = -1 then g 5 y - 1 else g x y, bzS g j)
  | 0, _ => by
    refine Prod.ext ?_ rfl
    funext x y
    show g x y = if x = 5 ∧ y < 0 ∧ ¬ g 4 y = -1 then g 5 y - 1 else g x y
    rw [if_neg (fun z => by have := z.2.1; omega)]
  | j + 1, h => by
    have ih := tk1_quiet j (fun k hk => h k (by omega))
    have h4 : (tk1 g j).1 4 j = g 4 j := tk1_4 j j (Nat.le_refl j)
    have h5 : (tk1 g j).1 5 j = g 5 j := by
      rw [ih]
      dsimp only
      rw [if_neg (fun z => by have := z.2.1; omega)]
    by_cases e : g 4 j = -1
    · rw [tk1_no (h4.trans e), ih, bzS, if_pos e]
      refine Prod.ext ?_ rfl
      funext x y
      dsimp only
      by_cases h2 : x = 5 ∧ y < j ∧ ¬ g 4 y = -1
      · rw [if_pos h2, if_pos ⟨h2.1, by omega, h2.2.2⟩]
      · rw [if_neg h2, if_neg (fun z => h2 ⟨z.1, by
          rcases Nat.lt_or_ge y j with r | r
          · exact r
          · have : y = j := by omega
            rw [this] at z
            exact absurd e z.2.2, z.2.2⟩)]
    · rw [tk1_left (by rw [h4]; exact e) (by rw [h5]; exact h j (by omega) e), h5, ih, bzS, if_neg e]
      refine Prod.ext ?_ rfl
      funext x y
      dsimp only
      unfold hset
      dsimp only
      by_cases h1 : x = 5 ∧ y = j
      · rw [if_pos h1, if_pos ⟨h1.1, by omega, by rw [h1.2]; exact e⟩, h1.2]
      · rw [if_neg h1]
        by_cases h2 : x = 5 ∧ y < j ∧ ¬ g 4 y = -1
        · rw [if_pos h2, if_pos ⟨h2.1, by omega, h2.2.2⟩]
        · rw [if_neg h2, if_neg (fun z => h2 ⟨z.1, by omega, z.2.2⟩)]
theorem tk2_quiet {M N : Nat} {g : Hv} (h : ST M N g) : ∀ j, j ≤ M → tk2 g (bzS g M) N j = (g, bzS g M)
  | 0, _ => rfl
  | j + 1, hj => by
    have ih := tk2_quiet h j (by omega)
    rcases h j (by omega) with z | z
    · rw [tk2_no, ih]
      unfold tk2c
      rw [ih]
      exact z
    · rw [tk2_none, ih]
      rw [ih]
      exact z
theorem ST_congr {M N : Nat} {g g' : Hv} (hj : ∀ x y, x ≠ 5 → ¬ (x = 0 ∧ y = 1) → g' x y = g x y) (h : ST M N g) : ST M N g' := by
  intro k hk
  rw [hj 0 0 (by decide) (by decide), hj 4 k (by decide) (by omega), hj 0 4 (by decide) (by decide), hj 2 k (by decide) (by omega), bzS_congr (g := g) M (fun y _ => hj 4 y (by decide) (by omega)), waitF_congr (g := g) (fun y => hj 9 y (by decide) (by omega)) (fun y => hj 7 y (by decide) (by omega)) (fun y => hj 11 y (by decide) (by omega))]
  have hw : wantS g' k = wantS g k := by
    unfold wantS
    rw [hj 1 k (by decide) (by omega)]
  rw [hw]
  exact h k hk
theorem tick_quiet {M N : Nat} {g : Hv} (hs : ST M N g) (hq : ∀ k, k < M → ¬ g 4 k = -1 → 0 < g 5 k - 1) : tickS g M N = qd g M 1 := by
  unfold tickS
  rw [tk1_quiet M hq]
  dsimp only
  generalize hG : (fun x y => if x = 5 ∧ y < M ∧ ¬ g 4 y = -1 then g 5 y - 1 else g x y : Hv) = G
  have hj : ∀ x y, x ≠ 5 → ¬ (x = 0 ∧ y = 1) → G x y = g x y := fun x y h5 _ => by
    rw [← hG]
    dsimp only
    rw [if_neg (fun z => h5 z.1)]
  have hb : bzS G M = bzS g M := bzS_congr M (fun k _ => hj 4 k (by decide) (by omega))
  have hq2 := tk2_quiet (ST_congr hj hs) M (Nat.le_refl M)
  rw [hb] at hq2
  rw [hq2]
  dsimp only
  funext x y
  unfold hset qd
  have h01 : G 0 1 = g 0 1 := by
    rw [← hG]
    dsimp only
    rw [if_neg (by omega)]
  by_cases h1 : x = 0 ∧ y = 1
  · rw [if_pos h1, if_pos h1, h01]
  · rw [if_neg h1, if_neg h1, ← hG]
theorem tickN_quiet {M N : Nat} : ∀ (n : Nat) {g : Hv}, HI M N g → ST M N g → (∀ k, k < M → ¬ g 4 k = -1 → ∃ t, n < t ∧ t < 1000 ∧ g 5 k = nI t) → tickN M N n g = qd g M (nI n)
  | 0, g, _, _, _ => by
    funext x y
    show g x y = _
    unfold qd
    rw [show nI 0 = (0 : Int32) from rfl]
    by_cases h1 : x = 0 ∧ y = 1
    · rw [if_pos h1, h1.1, h1.2, Int32.add_zero]
    · rw [if_neg h1]
      by_cases h2 : x = 5 ∧ y < M ∧ ¬ g 4 y = -1
      · rw [if_pos h2, h2.1, Int32.sub_zero]
      · rw [if_neg h2]
  | n + 1, g, hi, hs, hl => by
    have hq : tickS g M N = qd g M 1 := tick_quiet hs (fun k hk e => by
      obtain ⟨t, h1, h2, h3⟩ := hl k hk e
      rw [h3, show (1 : Int32) = nI 1 from rfl, pk_sub (by omega)]
      exact nI_lt (a := 0) (by omega) (by omega))
    show tickN M N n (tickS g M N) = _
    have hi2 := hi.tickS
    rw [hq] at hi2 ⊢
    rw [tickN_quiet n hi2 (ST_congr (fun x y h5 h0 => qd_j h5 h0) hs) (fun k hk e => ?_), qd_qd, show (1 : Int32) = nI 1 from rfl, nI_add, Nat.add_comm 1 n]
    have e4 : qd g M 1 4 k = g 4 k := qd_j (by decide) (by omega)
    rw [e4] at e
    obtain ⟨t, h1, h2, h3⟩ := hl k hk e
    refine ⟨t - 1, by omega, by omega, ?_⟩
    unfold qd
    rw [if_neg (by omega), if_pos ⟨rfl, hk, e⟩, h3, show (1 : Int32) = nI 1 from rfl, pk_sub (by omega)]
/-- how many are quiet, for the lefts that there are -/
theorem qtS_ok {M N : Nat} {g : Hv} (h : HI M N g) (r : Nat) (hr : r < 2 ^ 30) : ∀ m, m ≤ M → ∃ q, q ≤ r ∧ qtS g (nI r) m = nI q ∧ ∀ k, k < m → ¬ g 4 k = -1 → ∃ t, q < t ∧ t < 1000 ∧ g 5 k = nI t
  | 0, _ => ⟨r, Nat.le_refl r, rfl, fun k hk => by omega⟩
  | m + 1, hm => by
    obtain ⟨q, h1, h2, h3⟩ := qtS_ok h r hr m (by omega)
    by_cases e : g 4 m = -1
    · refine ⟨q, h1, by rw [qtS, if_pos e, h2], fun k hk he => ?_⟩
      rcases Nat.lt_or_ge k m with z | z
      · exact h3 k z he
      · have : k = m := by omega
        rw [this] at he
        exact absurd e he
    · obtain ⟨l, t, g1, g2, g3, g4, g5, g6⟩ := left_ok h (by omega) e
      by_cases c : t - 1 < q
      · refine ⟨t - 1, by omega, by rw [qtS, if_neg e, h2, g6, if_pos (nI_lt c (by omega))], fun k hk he => ?_⟩
        rcases Nat.lt_or_ge k m with z | z
        · obtain ⟨t', a1, a2, a3⟩ := h3 k z he
          exact ⟨t', by omega, a2, a3⟩
        · have : k = m := by omega
          rw [this]
          exact ⟨t, by omega, g3, g5⟩
      · refine ⟨q, h1, by rw [qtS, if_neg e, h2, g6, if_neg (nI_nlt (by omega) (by omega))], fun k hk he => ?_⟩
        rcases Nat.lt_or_ge k m with z | z
        · exact h3 k z he
        · have : k = m := by omega
          rw [this]
          exact ⟨t, by omega, g3, g5⟩

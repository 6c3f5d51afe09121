/-! THE HALL'S STANDING: what always holds of it; a tick keeps it -/
def HI (M N : Nat) (g : Hv) : Prop :=
  (M ≤ 5 ∧ N ≤ 6 ∧ 0 < M ∧ 0 < N) ∧ (g 0 2 = nI M ∧ g 0 3 = nI N) ∧
  (∀ k, k < M → (g 4 k = -1 ∧ g 5 k = 0) ∨ ∃ l t, l < N ∧ 1 ≤ t ∧ t < 1000 ∧ g 4 k = nI l ∧ g 5 k = nI t ∧ g 9 l = nI (10 + k)) ∧
  (∀ l, l < N → g 9 l = 0 ∨ g 9 l = 1 ∨ g 9 l = 2 ∨ ∃ k, k < M ∧ g 9 l = nI (10 + k) ∧ g 4 k = nI l) ∧
  (∀ k, k < M → ∃ a b c d, 1 ≤ a ∧ a ≤ 5 ∧ g 1 k = nI a ∧ 1 ≤ b ∧ b ≤ 9 ∧ g 2 k = nI b ∧ c ≤ 5 ∧ g 3 k = nI c ∧ d ≤ 999 ∧ g 6 k = nI d) ∧
  (∀ l, l < N → ∃ a b, 1 ≤ a ∧ a ≤ 9 ∧ g 7 l = nI a ∧ b ≤ 99 ∧ g 8 l = nI b) ∧
  (∀ j, j < N → ∃ l, l < N ∧ g 11 j = nI l) ∧
  (∃ b, b < 2 ^ M ∧ g 0 4 = nI b) ∧ (∃ p, 1 ≤ p ∧ p ≤ 5 ∧ g 0 0 = nI p)
theorem HI.hM {M N : Nat} {g : Hv} (h : HI M N g) : g 0 2 = nI M := h.2.1.1
theorem HI.hN {M N : Nat} {g : Hv} (h : HI M N g) : g 0 3 = nI N := h.2.1.2
theorem HI.hM5 {M N : Nat} {g : Hv} (h : HI M N g) : M ≤ 5 := h.1.1
theorem HI.hN6 {M N : Nat} {g : Hv} (h : HI M N g) : N ≤ 6 := h.1.2.1
theorem HI.hM0 {M N : Nat} {g : Hv} (h : HI M N g) : 0 < M := h.1.2.2.1
theorem HI.hN0 {M N : Nat} {g : Hv} (h : HI M N g) : 0 < N := h.1.2.2.2
theorem HI.hold {M N : Nat} {g : Hv} (h : HI M N g) : ∀ k, k < M → (g 4 k = -1 ∧ g 5 k = 0) ∨ ∃ l t, l < N ∧ 1 ≤ t ∧ t < 1000 ∧ g 4 k = nI l ∧ g 5 k = nI t ∧ g 9 l = nI (10 + k) := h.2.2.1
theorem HI.how {M N : Nat} {g : Hv} (h : HI M N g) : ∀ l, l < N → g 9 l = 0 ∨ g 9 l = 1 ∨ g 9 l = 2 ∨ ∃ k, k < M ∧ g 9 l = nI (10 + k) ∧ g 4 k = nI l := h.2.2.2.1
theorem HI.mach {M N : Nat} {g : Hv} (h : HI M N g) : ∀ k, k < M → ∃ a b c d, 1 ≤ a ∧ a ≤ 5 ∧ g 1 k = nI a ∧ 1 ≤ b ∧ b ≤ 9 ∧ g 2 k = nI b ∧ c ≤ 5 ∧ g 3 k = nI c ∧ d ≤ 999 ∧ g 6 k = nI d := h.2.2.2.2.1
theorem HI.load {M N : Nat} {g : Hv} (h : HI M N g) : ∀ l, l < N → ∃ a b, 1 ≤ a ∧ a ≤ 9 ∧ g 7 l = nI a ∧ b ≤ 99 ∧ g 8 l = nI b := h.2.2.2.2.2.1
theorem HI.rank {M N : Nat} {g : Hv} (h : HI M N g) : ∀ j, j < N → ∃ l, l < N ∧ g 11 j = nI l := h.2.2.2.2.2.2.1
theorem HI.opn {M N : Nat} {g : Hv} (h : HI M N g) : ∃ b, b < 2 ^ M ∧ g 0 4 = nI b := h.2.2.2.2.2.2.2.1
theorem HI.pow {M N : Nat} {g : Hv} (h : HI M N g) : ∃ p, 1 ≤ p ∧ p ≤ 5 ∧ g 0 0 = nI p := h.2.2.2.2.2.2.2.2
theorem HI.rk {M N : Nat} {g : Hv} (h : HI M N g) : RK g N := fun j hj => by
  obtain ⟨l, hl, e⟩ := h.rank j hj
  exact ⟨l, by have := h.hN6; omega, e⟩
theorem HI.hh {M N : Nat} {g : Hv} (h : HI M N g) : HH g M := fun k hk => by
  rcases h.hold k hk with e | ⟨l, t, h1, -, -, h2, -⟩
  · exact Or.inl e.1
  · exact Or.inr ⟨l, by have := h.hN6; omega, h2⟩
/-- what lies beside the lefts and the tick stays -/
theorem HI.left {M N : Nat} {g : Hv} (h : HI M N g) {k t : Nat} (hk : k < M) (ht : 1 ≤ t) (ht2 : t < 1000) (hh : ¬ g 4 k = -1) : HI M N (hset g 5 k (nI t)) := by
  refine ⟨h.1, ⟨h.hM, h.hN⟩, fun q hq => ?_, h.how, h.mach, h.load, h.rank, h.opn, h.pow⟩
  by_cases e : q = k
  · subst e
    rcases h.hold q hq with z | ⟨l, t', h1, h2, h3, h4, h5, h6⟩
    · exact absurd z.1 hh
    · exact Or.inr ⟨l, t, h1, ht, ht2, h4, hs_at, h6⟩
  · have e5 : hset g 5 k (nI t) 5 q = g 5 q := hs_b e
    rw [e5]
    exact h.hold q hq
theorem HI.tick {M N : Nat} {g : Hv} (h : HI M N g) (t : Int32) : HI M N (hset g 0 1 t) := h
theorem nI_inj {a b : Nat} (h : nI a = nI b) (ha : a < 2 ^ 31 := by omega) (hb : b < 2 ^ 31 := by omega) : a = b := (nI_eq ha hb).mp h
theorem nI_lit (n : Nat) : nI n = Int32.ofNat n := rfl
theorem lasts_ok {M N : Nat} {g : Hv} (h : HI M N g) {k l : Nat} (hk : k < M) (hl : l < N) : ∃ t, 1 ≤ t ∧ t < 1000 ∧ lastsS g k l = nI t := by
  obtain ⟨a, b, c, d, ha1, ha5, ea, -, -, -, hc, ec, hd, ed⟩ := h.mach k hk
  obtain ⟨z, u, hz1, hz9, ez, -, -⟩ := h.load l hl
  unfold lastsS
  rw [ea, ec, ed, ez, nI_add, show (2 : Int32) = nI 2 from rfl, show (3 : Int32) = nI 3 from rfl, show (4 : Int32) = nI 4 from rfl, show (5 : Int32) = nI 5 from rfl, show (1 : Int32) = nI 1 from rfl, pk_div (by omega) (by decide) (by decide), pk_div (by omega) (by decide) (by decide), pk_div (by omega) (by decide) (by decide), nI_add, nI_add, nI_add, pk_sub (by omega)]
  split
  · split
    · rename_i h1
      exact ⟨_, by have := (nI_ltI (by decide) (by omega)).mp h1; omega, by omega, rfl⟩
    · exact ⟨1, by omega, by omega, rfl⟩
  · split
    · exact ⟨_, by omega, by omega, rfl⟩
    · split
      · exact ⟨_, by omega, by omega, rfl⟩
      · split
        · split
          · rename_i h1
            exact ⟨_, by have := (nI_ltI (by decide) (by omega)).mp h1; omega, by omega, rfl⟩
          · exact ⟨1, by omega, by omega, rfl⟩
        · exact ⟨_, by omega, by omega, rfl⟩
theorem HI.out {M N : Nat} {g : Hv} (h : HI M N g) {k l : Nat} {v : Int32} (hk : k < M) (hl : g 4 k = nI l) (hlN : l < N) : HI M N (outS (hset g 5 k v) k l) := by
  have hN6 := h.hN6
  have hM5 := h.hM5
  have h9k : g 9 l = nI (10 + k) := by
    rcases h.hold k hk with z | ⟨l', t', h1, -, -, h4, -, h6⟩
    · rw [z.1] at hl
      exact absurd hl.symm (nI_ne_m1 (by omega))
    · rw [hl] at h4
      have := nI_inj h4
      rw [this]
      exact h6
  have e4 : ∀ q, outS (hset g 5 k v) k l 4 q = if q = k then -1 else g 4 q := fun q => by
    by_cases e : q = k
    · rw [if_pos e, e]
      unfold outS
      rw [hs_j (by decide), hs_j (by decide), hs_at]
    · rw [if_neg e, outS_4 e, hs_j (by decide)]
  have e5 : ∀ q, outS (hset g 5 k v) k l 5 q = if q = k then 0 else g 5 q := fun q => by
    unfold outS
    by_cases e : q = k
    · rw [if_pos e, e, hs_j (by decide), hs_at]
    · rw [if_neg e, hs_j (by decide), hs_b e, hs_j (by decide)]
      split
      · rw [hs_j (by decide), hs_b e]
      · rw [hs_j (by decide), hs_j (by decide), hs_b e]
  have e9 : ∀ q, outS (hset g 5 k v) k l 9 q = if q = l then (if g 1 k ≤ 3 then 1 else 2) else g 9 q := fun q => by
    unfold outS
    rw [hs_j (by decide), hs_j (by decide), hs_j (by decide), show hset g 5 k v 1 k = g 1 k from hs_j (by decide)]
    by_cases e : q = l
    · rw [if_pos e, e]
      split
      · rw [hs_at]
      · rw [hs_j (by decide), hs_at]
    · rw [if_neg e]
      split
      · rw [hs_b e, hs_j (by decide)]
      · rw [hs_j (by decide), hs_b e, hs_j (by decide)]
  have e6 : ∀ q, outS (hset g 5 k v) k l 6 q = if q = k then (if g 6 k + 1 < 999 then g 6 k + 1 else 999) else g 6 q := fun q => by
    unfold outS
    by_cases e : q = k
    · rw [if_pos e, e, hs_at, show hset g 5 k v 6 k = g 6 k from hs_j (by decide)]
    · rw [if_neg e, hs_b e, hs_j (by decide), hs_j (by decide)]
      split
      · rw [hs_j (by decide), hs_j (by decide)]
      · rw [hs_j (by decide), hs_j (by decide), hs_j (by decide)]
  have ej : ∀ x q, x ≠ 4 → x ≠ 5 → x ≠ 6 → x ≠ 9 → x ≠ 10 → outS (hset g 5 k v) k l x q = g x q := fun x q a4 a5 a6 a9 a10 => by rw [outS_j a4 a5 a6 a9 a10, hs_j a5]
  refine ⟨h.1, ⟨?_, ?_⟩, fun q hq => ?_, fun q hq => ?_, fun q hq => ?_, fun q hq => ?_, fun q hq => ?_, ?_, ?_⟩
  · rw [ej _ _ (by decide) (by decide) (by decide) (by decide) (by decide)]
    exact h.hM
  · rw [ej _ _ (by decide) (by decide) (by decide) (by decide) (by decide)]
    exact h.hN
  · rw [e4, e5]
    by_cases e : q = k
    · rw [if_pos e, if_pos e]
      exact Or.inl ⟨rfl, rfl⟩
    · rw [if_neg e, if_neg e]
      rcases h.hold q hq with z | ⟨l', t', h1, h2, h3, h4, h5, h6⟩
      · exact Or.inl z
      · refine Or.inr ⟨l', t', h1, h2, h3, h4, h5, ?_⟩
        rw [e9, if_neg (fun z => ?_)]
        · exact h6
        · subst z
          rw [h9k] at h6
          have := nI_inj h6
          omega
  · rw [e9]
    by_cases e : q = l
    · rw [if_pos e]
      split
      · exact Or.inr (Or.inl rfl)
      · exact Or.inr (Or.inr (Or.inl rfl))
    · rw [if_neg e]
      rcases h.how q hq with z | z | z | ⟨k', a1, a2, a3⟩
      · exact Or.inl z
      · exact Or.inr (Or.inl z)
      · exact Or.inr (Or.inr (Or.inl z))
      · refine Or.inr (Or.inr (Or.inr ⟨k', a1, a2, ?_⟩))
        rw [e4, if_neg (fun z => ?_)]
        · exact a3
        · subst z
          rw [hl] at a3
          exact e (nI_inj a3).symm
  · obtain ⟨a, b, c, d, ha1, ha5, ea, hb1, hb2, eb, hc, ec, hd, ed⟩ := h.mach q hq
    rw [ej 1 _ (by decide) (by decide) (by decide) (by decide) (by decide), ej 2 _ (by decide) (by decide) (by decide) (by decide) (by decide), ej 3 _ (by decide) (by decide) (by decide) (by decide) (by decide), e6]
    by_cases e : q = k
    · subst e
      rw [if_pos rfl, ed, nI_1, show (999 : Int32) = nI 999 from rfl]
      split
      · rename_i h1
        exact ⟨a, b, c, d + 1, ha1, ha5, ea, hb1, hb2, eb, hc, ec, by have := (nI_ltI (by omega) (by decide)).mp h1; omega, rfl⟩
      · exact ⟨a, b, c, 999, ha1, ha5, ea, hb1, hb2, eb, hc, ec, by omega, rfl⟩
    · rw [if_neg e]
      exact ⟨a, b, c, d, ha1, ha5, ea, hb1, hb2, eb, hc, ec, hd, ed⟩
  · rw [ej 7 _ (by decide) (by decide) (by decide) (by decide) (by decide), ej 8 _ (by decide) (by decide) (by decide) (by decide) (by decide)]
    exact h.load q hq
  · rw [ej 11 _ (by decide) (by decide) (by decide) (by decide) (by decide)]
    exact h.rank q hq
  · rw [ej 0 _ (by decide) (by decide) (by decide) (by decide) (by decide)]
    exact h.opn
  · rw [ej 0 _ (by decide) (by decide) (by decide) (by decide) (by decide)]
    exact h.pow
theorem HI.put {M N : Nat} {g : Hv} (h : HI M N g) {k l : Nat} (hk : k < M) (he : g 4 k = -1) (hl : l < N) (hw : g 9 l = 0 ∨ g 9 l = 1) : HI M N (putS g k l) := by
  have hN6 := h.hN6
  have hM5 := h.hM5
  obtain ⟨t, ht1, ht2, et⟩ := lasts_ok h hk hl
  have h10 : ∀ q, q < M → ¬ g 9 l = nI (10 + q) := fun q hq z => by
    rcases hw with e | e
    · rw [e] at z
      have := nI_inj (a := 0) z
      omega
    · rw [e] at z
      have := nI_inj (a := 1) z
      omega
  have e4 : ∀ q, putS g k l 4 q = if q = k then nI l else g 4 q := fun q => by
    by_cases e : q = k
    · rw [if_pos e, e]
      unfold putS
      rw [hs_j (by decide), hs_j (by decide), hs_at]
    · rw [if_neg e, putS_4 e]
  have e5 : ∀ q, putS g k l 5 q = if q = k then nI t else g 5 q := fun q => by
    unfold putS
    by_cases e : q = k
    · rw [if_pos e, e, hs_at, et]
    · rw [if_neg e, hs_b e, hs_j (by decide), hs_j (by decide)]
  have e9 : ∀ q, putS g k l 9 q = if q = l then nI (10 + k) else g 9 q := fun q => by
    unfold putS
    rw [hs_j (by decide)]
    by_cases e : q = l
    · rw [if_pos e, e, hs_at]
      exact nI_add 10 k
    · rw [if_neg e, hs_b e, hs_j (by decide)]
  have ej : ∀ x q, x ≠ 4 → x ≠ 5 → x ≠ 9 → putS g k l x q = g x q := fun x q a4 a5 a9 => putS_j a4 a5 a9
  refine ⟨h.1, ⟨?_, ?_⟩, fun q hq => ?_, fun q hq => ?_, fun q hq => ?_, fun q hq => ?_, fun q hq => ?_, ?_, ?_⟩
  · rw [ej _ _ (by decide) (by decide) (by decide)]
    exact h.hM
  · rw [ej _ _ (by decide) (by decide) (by decide)]
    exact h.hN
  · rw [e4, e5]
    by_cases e : q = k
    · rw [if_pos e, if_pos e, e]
      exact Or.inr ⟨l, t, hl, ht1, ht2, rfl, rfl, by rw [e9, if_pos rfl]⟩
    · rw [if_neg e, if_neg e]
      rcases h.hold q hq with z | ⟨l', t', h1, h2, h3, h4, h5, h6⟩
      · exact Or.inl z
      · refine Or.inr ⟨l', t', h1, h2, h3, h4, h5, ?_⟩
        rw [e9, if_neg (fun z => ?_)]
        · exact h6
        · subst z
          exact h10 q hq h6
  · rw [e9]
    by_cases e : q = l
    · rw [if_pos e]
      exact Or.inr (Or.inr (Or.inr ⟨k, hk, rfl, by rw [e4, if_pos rfl, e]⟩))
    · rw [if_neg e]
      rcases h.how q hq with z | z | z | ⟨k', a1, a2, a3⟩
      · exact Or.inl z
      · exact Or.inr (Or.inl z)
      · exact Or.inr (Or.inr (Or.inl z))
      · refine Or.inr (Or.inr (Or.inr ⟨k', a1, a2, ?_⟩))
        rw [e4, if_neg (fun z => ?_)]
        · exact a3
        · subst z
          rw [he] at a3
          exact absurd a3.symm (nI_ne_m1 (by omega))
  · rw [ej 1 _ (by decide) (by decide) (by decide), ej 2 _ (by decide) (by decide) (by decide), ej 3 _ (by decide) (by decide) (by decide), ej 6 _ (by decide) (by decide) (by decide)]
    exact h.mach q hq
  · rw [ej 7 _ (by decide) (by decide) (by decide), ej 8 _ (by decide) (by decide) (by decide)]
    exact h.load q hq
  · rw [ej 11 _ (by decide) (by decide) (by decide)]
    exact h.rank q hq
  · rw [ej 0 _ (by decide) (by decide) (by decide)]
    exact h.opn
  · rw [ej 0 _ (by decide) (by decide) (by decide)]
    exact h.pow

/-! OPS: byTurns: the reference -/
def mvN (M k b f : Nat) : Option Nat := if f = 0 then some b else if f - 1 < M ∧ (b / 2 ^ (f - 1) % 2 = 1 ↔ k % 2 = 0) then some (if b / 2 ^ (f - 1) % 2 = 1 then b - 2 ^ (f - 1) else b + 2 ^ (f - 1)) else none
def obF (M a : Nat) : Nat → Nat → Option Nat
  | 0, _ => some a
  | n + 1, row => match obF M a n (row / 6) with
    | none => none
    | some b => mvN M n b (row % 6)
theorem ob_s {M a k row : Nat} {b : Nat} (h : obF M a k (row / 6) = some b) : obF M a (k + 1) row = mvN M k b (row % 6) := by rw [obF, h]
theorem ob_n {M a k row : Nat} (h : obF M a k (row / 6) = none) : obF M a (k + 1) row = none := by rw [obF, h]
theorem ob_none {M a row : Nat} : ∀ c k, obF M a k (row / 6 ^ c) = none → obF M a (k + c) row = none
  | 0, k, h => by rw [Nat.pow_zero, Nat.div_one] at h; exact h
  | c + 1, k, h => by
    have q := ob_none (M := M) (a := a) (row := row) c (k + 1) (ob_n (by rw [Nat.div_div_eq_div_mul, ← Nat.pow_succ]; exact h))
    rw [show k + (c + 1) = k + 1 + c by omega]
    exact q
theorem mv_lt {M k b f b' : Nat} (hM : M ≤ 5) (hb : b < 2 ^ M) (h : mvN M k b f = some b') : b' < 2 ^ M := by
  unfold mvN at h
  split at h
  · cases h; exact hb
  · split at h
    · rename_i h1 h2
      cases h
      split
      · exact Nat.lt_of_le_of_lt (Nat.sub_le _ _) hb
      · rename_i z
        exact (tT4 M hM b hb (f - 1) h2.1 z).1
    · cases h
theorem ob_lt {M a : Nat} (hM : M ≤ 5) (ha : a < 2 ^ M) : ∀ n row b, obF M a n row = some b → b < 2 ^ M
  | 0, _, b, h => by cases h; exact ha
  | n + 1, row, b, h => by
    cases hz : obF M a n (row / 6) with
    | none => rw [ob_n hz] at h; cases h
    | some c => rw [ob_s hz] at h; exact mv_lt hM (ob_lt hM ha n _ c hz) h
def vO (V : Nat → Nat) : Option Nat → Int32
  | none => -1
  | some b => nI (V b)
def stp (k : Nat) (a v : Int32) : Int32 := if v < 0 then a else if a < 0 ∨ (if k % 2 = 0 then v < a else a < v) then v else a
def itN (k : Nat) (c : Nat → Int32) : Nat → Int32
  | 0 => -1
  | f + 1 => stp k (itN k c f) (c f)
theorem it_none {k : Nat} {c : Nat → Int32} (h : ∀ f, f < 6 → c f = -1) : ∀ j, j ≤ 6 → itN k c j = -1
  | 0, _ => rfl
  | j + 1, hj => by
    rw [itN, it_none h j (by omega), h j (by omega)]
    rfl
theorem stp_no {k : Nat} {a : Int32} : stp k a (-1) = a := if_pos (by decide)
theorem stp_min {k a b : Nat} (hk : k % 2 = 0) (ha : a < 2 ^ 31) (hb : b < 2 ^ 31) : stp k (nI a) (nI b) = nI (min a b) := by
  unfold stp
  rw [if_neg (nI_pos hb), ← mn_n ha hb]
  by_cases y : nI b < nI a
  · rw [if_pos (Or.inr (by rw [if_pos hk]; exact y)), if_pos y]
  · rw [if_neg (fun q => q.elim (nI_pos ha) (fun z => y (by rw [if_pos hk] at z; exact z))), if_neg y]
theorem stp_max {k a b : Nat} (hk : ¬ k % 2 = 0) (ha : a < 2 ^ 31) (hb : b < 2 ^ 31) : stp k (nI a) (nI b) = nI (max a b) := by
  unfold stp
  rw [if_neg (nI_pos hb), ← mx_n ha hb]
  by_cases y : nI a < nI b
  · rw [if_pos (Or.inr (by rw [if_neg hk]; exact y)), if_pos y]
  · rw [if_neg (fun q => q.elim (nI_pos ha) (fun z => y (by rw [if_neg hk] at z; exact z))), if_neg y]
theorem mv_y {M k b f : Nat} (h : f < M ∧ (b / 2 ^ f % 2 = 1 ↔ k % 2 = 0)) : mvN M k b (f + 1) = some (if b / 2 ^ f % 2 = 1 then b - 2 ^ f else b + 2 ^ f) := by
  unfold mvN
  rw [if_neg (by omega), Nat.add_sub_cancel, if_pos h]
theorem mv_n {M k b f : Nat} (h : ¬ (f < M ∧ (b / 2 ^ f % 2 = 1 ↔ k % 2 = 0))) : mvN M k b (f + 1) = none := by
  unfold mvN
  rw [if_neg (by omega), Nat.add_sub_cancel, if_neg h]
theorem it_some {M k b : Nat} {V : Nat → Nat} (hV : ∀ y, V y < 100) {c : Nat → Int32} (h : ∀ f, f < 6 → c f = vO V (mvN M k b f)) : ∀ j, j ≤ 5 → itN k c (j + 1) = nI (gnF M k V b j)
  | 0, _ => by
    have hb := hV b
    rw [itN, h 0 (by omega)]
    show stp k (-1) (nI (V b)) = nI (V b)
    unfold stp
    rw [if_neg (nI_pos (by omega)), if_pos (Or.inl (by decide))]
  | j + 1, hj => by
    have hb := gnF_lt (M := M) (t := k) (b := b) hV j
    have h1 := hV (b - 2 ^ j)
    have h2 := hV (b + 2 ^ j)
    rw [itN, it_some hV h j (by omega), h (j + 1) (by omega), gnF]
    by_cases z : j < M ∧ (b / 2 ^ j % 2 = 1 ↔ k % 2 = 0)
    · rw [if_pos z, mv_y z]
      by_cases hk : k % 2 = 0
      · rw [if_pos (z.2.mpr hk), if_pos hk]
        exact stp_min hk (by omega) (by omega)
      · rw [if_neg (fun q => hk (z.2.mp q)), if_neg hk]
        exact stp_max hk (by omega) (by omega)
    · rw [if_neg z, mv_n z]
      exact stp_no
theorem gn_top {M t : Nat} {V : Nat → Nat} {b : Nat} : ∀ d, gnF M t V b (M + d) = gnF M t V b M
  | 0 => rfl
  | d + 1 => by rw [← Nat.add_assoc, gnF, if_neg (fun q => by have := q.1; omega), gn_top d]
theorem it_ok {M a k q : Nat} (hM : M ≤ 5) {V : Nat → Nat} (hV : ∀ y, V y < 100) {c : Nat → Int32} (h : ∀ f, f < 6 → c f = vO V (obF M a (k + 1) (6 * q + f))) : itN k c 6 = vO (fun b => gnF M k V b M) (obF M a k q) := by
  have hd : ∀ f, f < 6 → (6 * q + f) / 6 = q ∧ (6 * q + f) % 6 = f := fun f hf => by omega
  cases hz : obF M a k q with
  | none => exact it_none (fun f hf => by rw [h f hf, ob_n (by rw [(hd f hf).1]; exact hz)]; rfl) 6 (Nat.le_refl 6)
  | some b =>
    rw [it_some (M := M) (b := b) hV (fun f hf => by rw [h f hf, ob_s (b := b) (by rw [(hd f hf).1]; exact hz), (hd f hf).2]) 5 (Nat.le_refl 5)]
    show nI _ = nI (gnF M k V b M)
    rw [show 5 = M + (5 - M) by omega, gn_top]
theorem pow6_le {n : Nat} (h : n ≤ 4) : 6 ^ n ≤ 1296 := by
  have := Nat.pow_le_pow_right (show 0 < 6 by decide) h
  simpa using this
theorem pow6_pos (n : Nat) : 1 ≤ 6 ^ n := Nat.one_le_pow _ _ (by decide)
theorem lp_obA {H : Hv} {row n : Nat} {v3 : Int32} (hn : n ≤ 4) {P : Option Value → Hv → Prop} (kx : ∀ v5, GdH M_X7_openBy 1 32 [some (.ref 360), some (.int (nI row)), some (.int (nI n)), some (.int v3), some (.int (nI (6 ^ (n - 1)))), some (.int v5), none, none] [] H P) : ∀ (c k : Nat), k + 1 + c = n → GdH M_X7_openBy 1 13 [some (.ref 360), some (.int (nI row)), some (.int (nI n)), some (.int v3), some (.int (nI (6 ^ k))), some (.int (nI (k + 1))), none, none] [] H P := by
  intro c
  induction c with
  | zero =>
    intro k hk
    have hk' : k = n - 1 := by omega
    rw [hk']
    refine g_iload d_X7_openBy_13 rfl ?_
    refine g_iload_n d_X7_openBy_15 rfl ?_
    refine g_icmp_ge d_X7_openBy_16 (fun c16 => ?_) (fun c16 => absurd (nI_le (a := n) (b := n - 1 + 1) (by omega) (by omega)) c16)
    exact kx _
  | succ c ih =>
    intro k hk
    refine g_iload d_X7_openBy_13 rfl ?_
    refine g_iload_n d_X7_openBy_15 rfl ?_
    refine g_icmp_ge d_X7_openBy_16 (fun c16 => absurd c16 (nI_ge (a := k + 1) (b := n) (by omega) (by omega))) (fun c16 => ?_)
    refine g_iload d_X7_openBy_19 rfl ?_
    refine g_bipush d_X7_openBy_21 bk_6 ?_
    refine g_imul d_X7_openBy_23 ?_
    refine w_istore (L' := [_, _, _, _, _, _, _, _]) d_X7_openBy_24 rfl rfl rfl ?_
    refine w_iinc (L' := [_, _, _, _, _, _, _, _]) d_X7_openBy_26 ik_1 rfl rfl rfl rfl ?_
    refine g_goto d_X7_openBy_29 ?_
    rw [nI_1, show nI (6 ^ k) * 6 = nI (6 ^ (k + 1)) by rw [Nat.pow_succ]; exact nMul rfl rfl]
    exact ih (k + 1) (by omega)
theorem lp_obB {h w : Hv} {M a row n : Nat} (hM5 : M ≤ 5) (wM : w 7 0 = nI M) (hn : n ≤ 4) (hrow : row < 1296) : ∀ (c k b : Nat), k + c = n → obF M a k (row / 6 ^ (n - k)) = some b → b < 2 ^ M → ∀ (y6 y7 : Option Value), GdH M_X7_openBy 1 35 [some (.ref 360), some (.int (nI row)), some (.int (nI n)), some (.int (nI b)), some (.int (nI (6 ^ (n - 1 - k)))), some (.int (nI k)), y6, y7] [] (mu h w) (fun v' h' => v' = some (.int (oI (obF M a n row))) ∧ h' = mu h w) := by
  have eM : (nI M).toInt = M := nI_toInt (by omega)
  intro c
  induction c with
  | zero =>
    intro k b hk hz hb y6 y7
    have hk' : n = k := by omega
    subst hk'
    rw [Nat.sub_self, Nat.pow_zero, Nat.div_one] at hz
    refine g_iload d_X7_openBy_35 rfl ?_
    refine g_iload_n d_X7_openBy_37 rfl ?_
    refine g_icmp_ge d_X7_openBy_38 (fun c38 => ?_) (fun c38 => absurd (nI_le (a := n) (b := n) (Nat.le_refl _) (by omega)) c38)
    refine g_iload_n d_X7_openBy_134 rfl ?_
    refine h_iret d_X7_openBy_135 rfl ?_
    exact ⟨by rw [hz]; rfl, rfl⟩
  | succ c ih =>
    intro k b hk hz hb y6 y7
    have hpw : 6 ^ (n - 1 - k) ≤ 1296 := pow6_le (by omega)
    have hpp := pow6_pos (n - 1 - k)
    have hdl : row / 6 ^ (n - 1 - k) ≤ row := Nat.div_le_self _ _
    have hfl : row / 6 ^ (n - 1 - k) % 6 < 6 := Nat.mod_lt _ (by decide)
    have hob : obF M a (k + 1) (row / 6 ^ (n - 1 - k)) = mvN M k b (row / 6 ^ (n - 1 - k) % 6) := ob_s (by rw [Nat.div_div_eq_div_mul, show 6 ^ (n - 1 - k) * 6 = 6 ^ (n - k) by rw [show n - k = n - 1 - k + 1 by omega, Nat.pow_succ]]; exact hz)
    have hun : (if 5 < 6 ^ (n - 1 - k) then 6 ^ (n - 1 - k) / 6 else 1) = 6 ^ (n - 1 - (k + 1)) := by
      by_cases e : n - 1 - k = 0
      · rw [e, show n - 1 - (k + 1) = 0 by omega, Nat.pow_zero, if_neg (by decide)]
      · rw [show n - 1 - k = (n - 1 - (k + 1)) + 1 by omega, Nat.pow_succ]
        have := pow6_pos (n - 1 - (k + 1))
        rw [if_pos (by omega), Nat.mul_div_cancel _ (by decide)]
    have h32 := pow5 hM5
    refine g_iload d_X7_openBy_35 rfl ?_
    refine g_iload_n d_X7_openBy_37 rfl ?_
    refine g_icmp_ge d_X7_openBy_38 (fun c38 => absurd c38 (nI_ge (a := k) (b := n) (by omega) (by omega))) (fun c38 => ?_)
    refine g_iload_n d_X7_openBy_41 rfl ?_
    refine g_iload d_X7_openBy_42 rfl ?_
    refine g_idiv d_X7_openBy_44 (nI_ne0 (by omega) (by omega)) ?_
    rw [pk_div (by omega) (by omega) (by omega)]
    refine g_bipush d_X7_openBy_45 bk_6 ?_
    refine g_irem d_X7_openBy_47 (by decide) ?_
    rw [show nI (row / 6 ^ (n - 1 - k)) - nI (row / 6 ^ (n - 1 - k)) / 6 * 6 = nI (row / 6 ^ (n - 1 - k) % 6) from pk_rem (d := 6) (by omega) (by decide) (by decide)]
    refine g_iconst d_X7_openBy_48 ik_1 ?_
    refine g_isub d_X7_openBy_49 ?_
    refine w_istore (L' := [_, _, _, _, _, _, _, _]) d_X7_openBy_50 rfl rfl rfl ?_
    rcases Nat.eq_zero_or_pos (row / 6 ^ (n - 1 - k) % 6) with hf0 | hf0
    · rw [hf0] at hob ⊢
      rw [show nI 0 - 1 = (-1 : Int32) from rfl]
      refine g_iload d_X7_openBy_52 rfl ?_
      refine g_iconst d_X7_openBy_54 ik_5 ?_
      refine g_icmp_le d_X7_openBy_55 (fun c55 => ?_) (fun c55 => ?_)
      · refine g_iconst d_X7_openBy_66 ik_1 ?_
        have hu1 : 6 ^ (n - 1 - (k + 1)) = 1 := by rw [← hun, if_neg (fun q => nI_ge (a := 5) (b := 6 ^ (n - 1 - k)) q (by omega) c55)]
        refine w_istore (L' := [_, _, _, _, _, _, _, _]) d_X7_openBy_67 rfl rfl rfl ?_
        refine g_iload d_X7_openBy_69 rfl ?_
        refine g_iconst d_X7_openBy_71 ik_2 ?_
        refine g_irem d_X7_openBy_72 (by decide) ?_
        rw [show nI k - nI k / 2 * 2 = nI (k % 2) from pk_rem (d := 2) (by omega) (by decide) (by decide)]
        refine g_if_ne d_X7_openBy_73 (fun c73 => ?_) (fun c73 => ?_)
        · have hpar : ¬ k % 2 = 0 := fun z => by rw [z] at c73; exact c73 rfl
          refine g_iconst d_X7_openBy_80 ik_0 ?_
          refine w_istore (L' := [_, _, _, _, _, _, _, _]) d_X7_openBy_81 rfl rfl rfl ?_
          refine g_iload d_X7_openBy_83 rfl ?_
          refine g_aload_n d_X7_openBy_85 rfl ?_
          refine h_getR d_X7_openBy_86 fl_7_28 sp_M rfl ?_
          refine g_iconst d_X7_openBy_89 ik_0 ?_
          refine mm_aldV (k := 0) (v := nI M) d_X7_openBy_90 (j := 7) sp_m_d rfl (by decide) rfl (by omega) (by decide) (wM) ?_
          refine g_icmp_ge d_X7_openBy_91 (fun c91 => absurd c91 (show ¬ nI M ≤ -1 by simp only [Int32.le_iff_toInt_le, eM, t_m1]; omega)) (fun c91 => ?_)
          refine g_iload d_X7_openBy_94 rfl ?_
          refine g_if_lt d_X7_openBy_96 (fun c96 => ?_) (fun c96 => absurd (by decide) c96)
          refine g_iload_n d_X7_openBy_112 rfl ?_
          refine g_iload d_X7_openBy_113 rfl ?_
          refine g_if_ge d_X7_openBy_115 (fun c115 => absurd c115 (by decide)) (fun c115 => ?_)
          refine g_iconst d_X7_openBy_118 ik_0 ?_
          refine g_goto d_X7_openBy_119 ?_
          refine g_ixor d_X7_openBy_126 ?_
          refine w_istore_n (L' := [_, _, _, _, _, _, _, _]) d_X7_openBy_127 rfl rfl rfl ?_
          refine w_iinc (L' := [_, _, _, _, _, _, _, _]) d_X7_openBy_128 ik_1 rfl rfl rfl rfl ?_
          refine g_goto d_X7_openBy_131 ?_
          rw [Int32.xor_zero]
          rw [nI_1]
          have q := ih (k + 1) b (by omega) (by rw [show n - (k + 1) = n - 1 - k by omega, hob]; rfl) hb (some (.int (-1))) (some (.int 0))
          rw [hu1] at q
          exact q
        · have hpar : k % 2 = 0 := by rcases (show k % 2 = 0 ∨ k % 2 = 1 by omega) with z | z; exact z; rw [z] at c73; exact absurd c73 (by decide)
          refine g_iconst d_X7_openBy_76 ik_1 ?_
          refine g_goto d_X7_openBy_77 ?_
          refine w_istore (L' := [_, _, _, _, _, _, _, _]) d_X7_openBy_81 rfl rfl rfl ?_
          refine g_iload d_X7_openBy_83 rfl ?_
          refine g_aload_n d_X7_openBy_85 rfl ?_
          refine h_getR d_X7_openBy_86 fl_7_28 sp_M rfl ?_
          refine g_iconst d_X7_openBy_89 ik_0 ?_
          refine mm_aldV (k := 0) (v := nI M) d_X7_openBy_90 (j := 7) sp_m_d rfl (by decide) rfl (by omega) (by decide) (wM) ?_
          refine g_icmp_ge d_X7_openBy_91 (fun c91 => absurd c91 (show ¬ nI M ≤ -1 by simp only [Int32.le_iff_toInt_le, eM, t_m1]; omega)) (fun c91 => ?_)
          refine g_iload d_X7_openBy_94 rfl ?_
          refine g_if_lt d_X7_openBy_96 (fun c96 => ?_) (fun c96 => absurd (by decide) c96)
          refine g_iload_n d_X7_openBy_112 rfl ?_
          refine g_iload d_X7_openBy_113 rfl ?_
          refine g_if_ge d_X7_openBy_115 (fun c115 => absurd c115 (by decide)) (fun c115 => ?_)
          refine g_iconst d_X7_openBy_118 ik_0 ?_
          refine g_goto d_X7_openBy_119 ?_
          refine g_ixor d_X7_openBy_126 ?_
          refine w_istore_n (L' := [_, _, _, _, _, _, _, _]) d_X7_openBy_127 rfl rfl rfl ?_
          refine w_iinc (L' := [_, _, _, _, _, _, _, _]) d_X7_openBy_128 ik_1 rfl rfl rfl rfl ?_
          refine g_goto d_X7_openBy_131 ?_
          rw [Int32.xor_zero]
          rw [nI_1]
          have q := ih (k + 1) b (by omega) (by rw [show n - (k + 1) = n - 1 - k by omega, hob]; rfl) hb (some (.int (-1))) (some (.int 1))
          rw [hu1] at q
          exact q
      · refine g_iload d_X7_openBy_58 rfl ?_
        refine g_bipush d_X7_openBy_60 bk_6 ?_
        refine g_idiv d_X7_openBy_62 (by decide) ?_
        refine g_goto d_X7_openBy_63 ?_
        rw [show nI (6 ^ (n - 1 - k)) / 6 = nI (6 ^ (n - 1 - (k + 1))) by rw [← hun, if_pos (by rcases Nat.lt_or_ge 5 (6 ^ (n - 1 - k)) with z | z; exact z; exact absurd (nI_le (a := 6 ^ (n - 1 - k)) (b := 5) z (by decide)) c55)]; exact pk_div (d := 6) (by omega) (by decide) (by decide)]
        refine w_istore (L' := [_, _, _, _, _, _, _, _]) d_X7_openBy_67 rfl rfl rfl ?_
        refine g_iload d_X7_openBy_69 rfl ?_
        refine g_iconst d_X7_openBy_71 ik_2 ?_
        refine g_irem d_X7_openBy_72 (by decide) ?_
        rw [show nI k - nI k / 2 * 2 = nI (k % 2) from pk_rem (d := 2) (by omega) (by decide) (by decide)]
        refine g_if_ne d_X7_openBy_73 (fun c73 => ?_) (fun c73 => ?_)
        · have hpar : ¬ k % 2 = 0 := fun z => by rw [z] at c73; exact c73 rfl
          refine g_iconst d_X7_openBy_80 ik_0 ?_
          refine w_istore (L' := [_, _, _, _, _, _, _, _]) d_X7_openBy_81 rfl rfl rfl ?_
          refine g_iload d_X7_openBy_83 rfl ?_
          refine g_aload_n d_X7_openBy_85 rfl ?_
          refine h_getR d_X7_openBy_86 fl_7_28 sp_M rfl ?_
          refine g_iconst d_X7_openBy_89 ik_0 ?_
          refine mm_aldV (k := 0) (v := nI M) d_X7_openBy_90 (j := 7) sp_m_d rfl (by decide) rfl (by omega) (by decide) (wM) ?_
          refine g_icmp_ge d_X7_openBy_91 (fun c91 => absurd c91 (show ¬ nI M ≤ -1 by simp only [Int32.le_iff_toInt_le, eM, t_m1]; omega)) (fun c91 => ?_)
          refine g_iload d_X7_openBy_94 rfl ?_
          refine g_if_lt d_X7_openBy_96 (fun c96 => ?_) (fun c96 => absurd (by decide) c96)
          refine g_iload_n d_X7_openBy_112 rfl ?_
          refine g_iload d_X7_openBy_113 rfl ?_
          refine g_if_ge d_X7_openBy_115 (fun c115 => absurd c115 (by decide)) (fun c115 => ?_)
          refine g_iconst d_X7_openBy_118 ik_0 ?_
          refine g_goto d_X7_openBy_119 ?_
          refine g_ixor d_X7_openBy_126 ?_
          refine w_istore_n (L' := [_, _, _, _, _, _, _, _]) d_X7_openBy_127 rfl rfl rfl ?_
          refine w_iinc (L' := [_, _, _, _, _, _, _, _]) d_X7_openBy_128 ik_1 rfl rfl rfl rfl ?_
          refine g_goto d_X7_openBy_131 ?_
          rw [Int32.xor_zero]
          rw [nI_1]
          have q := ih (k + 1) b (by omega) (by rw [show n - (k + 1) = n - 1 - k by omega, hob]; rfl) hb (some (.int (-1))) (some (.int 0))
          exact q
        · have hpar : k % 2 = 0 := by rcases (show k % 2 = 0 ∨ k % 2 = 1 by omega) with z | z; exact z; rw [z] at c73; exact absurd c73 (by decide)
          refine g_iconst d_X7_openBy_76 ik_1 ?_
          refine g_goto d_X7_openBy_77 ?_
          refine w_istore (L' := [_, _, _, _, _, _, _, _]) d_X7_openBy_81 rfl rfl rfl ?_
          refine g_iload d_X7_openBy_83 rfl ?_
          refine g_aload_n d_X7_openBy_85 rfl ?_
          refine h_getR d_X7_openBy_86 fl_7_28 sp_M rfl ?_
          refine g_iconst d_X7_openBy_89 ik_0 ?_
          refine mm_aldV (k := 0) (v := nI M) d_X7_openBy_90 (j := 7) sp_m_d rfl (by decide) rfl (by omega) (by decide) (wM) ?_
          refine g_icmp_ge d_X7_openBy_91 (fun c91 => absurd c91 (show ¬ nI M ≤ -1 by simp only [Int32.le_iff_toInt_le, eM, t_m1]; omega)) (fun c91 => ?_)
          refine g_iload d_X7_openBy_94 rfl ?_
          refine g_if_lt d_X7_openBy_96 (fun c96 => ?_) (fun c96 => absurd (by decide) c96)
          refine g_iload_n d_X7_openBy_112 rfl ?_
          refine g_iload d_X7_openBy_113 rfl ?_
          refine g_if_ge d_X7_openBy_115 (fun c115 => absurd c115 (by decide)) (fun c115 => ?_)
          refine g_iconst d_X7_openBy_118 ik_0 ?_
          refine g_goto d_X7_openBy_119 ?_
          refine g_ixor d_X7_openBy_126 ?_
          refine w_istore_n (L' := [_, _, _, _, _, _, _, _]) d_X7_openBy_127 rfl rfl rfl ?_
          refine w_iinc (L' := [_, _, _, _, _, _, _, _]) d_X7_openBy_128 ik_1 rfl rfl rfl rfl ?_
          refine g_goto d_X7_openBy_131 ?_
          rw [Int32.xor_zero]
          rw [nI_1]
          have q := ih (k + 1) b (by omega) (by rw [show n - (k + 1) = n - 1 - k by omega, hob]; rfl) hb (some (.int (-1))) (some (.int 1))
          exact q
    · obtain ⟨f, hf1⟩ : ∃ f, (row / 6 ^ (n - 1 - k) % 6) = f + 1 := ⟨(row / 6 ^ (n - 1 - k) % 6) - 1, by omega⟩
      have hf5 : f < 5 := by omega
      rw [hf1] at hob ⊢
      rw [nI_pred]
      refine g_iload d_X7_openBy_52 rfl ?_
      refine g_iconst d_X7_openBy_54 ik_5 ?_
      refine g_icmp_le d_X7_openBy_55 (fun c55 => ?_) (fun c55 => ?_)
      · refine g_iconst d_X7_openBy_66 ik_1 ?_
        have hu1 : 6 ^ (n - 1 - (k + 1)) = 1 := by rw [← hun, if_neg (fun q => nI_ge (a := 5) (b := 6 ^ (n - 1 - k)) q (by omega) c55)]
        refine w_istore (L' := [_, _, _, _, _, _, _, _]) d_X7_openBy_67 rfl rfl rfl ?_
        refine g_iload d_X7_openBy_69 rfl ?_
        refine g_iconst d_X7_openBy_71 ik_2 ?_
        refine g_irem d_X7_openBy_72 (by decide) ?_
        rw [show nI k - nI k / 2 * 2 = nI (k % 2) from pk_rem (d := 2) (by omega) (by decide) (by decide)]
        refine g_if_ne d_X7_openBy_73 (fun c73 => ?_) (fun c73 => ?_)
        · have hpar : ¬ k % 2 = 0 := fun z => by rw [z] at c73; exact c73 rfl
          refine g_iconst d_X7_openBy_80 ik_0 ?_
          refine w_istore (L' := [_, _, _, _, _, _, _, _]) d_X7_openBy_81 rfl rfl rfl ?_
          refine g_iload d_X7_openBy_83 rfl ?_
          refine g_aload_n d_X7_openBy_85 rfl ?_
          refine h_getR d_X7_openBy_86 fl_7_28 sp_M rfl ?_
          refine g_iconst d_X7_openBy_89 ik_0 ?_
          refine mm_aldV (k := 0) (v := nI M) d_X7_openBy_90 (j := 7) sp_m_d rfl (by decide) rfl (by omega) (by decide) (wM) ?_
          refine g_icmp_ge d_X7_openBy_91 (fun c91 => ?_) (fun c91 => ?_)
          · refine g_iconst d_X7_openBy_110 ik_m1 ?_
            refine h_iret d_X7_openBy_111 rfl ?_
            have hmv : mvN M k b (f + 1) = none := by
              refine mv_n ?_
              intro q
              exact nI_ge (a := f) (b := M) q.1 (by omega) c91
            exact ⟨by rw [show obF M a n row = none by rw [show n = k + 1 + (n - 1 - k) by omega]; exact ob_none (n - 1 - k) (k + 1) (by rw [hob]; exact hmv)]; rfl, rfl⟩
          · refine g_iload d_X7_openBy_94 rfl ?_
            refine g_if_lt d_X7_openBy_96 (fun c96 => absurd c96 (nI_pos (by omega))) (fun c96 => ?_)
            refine g_iload_n d_X7_openBy_99 rfl ?_
            refine g_iload d_X7_openBy_100 rfl ?_
            refine h_S2i d_X7_openBy_102 cl_7_162 m7_has (Nat.le_of_ble_eq_true rfl) (by decide) ?_
            refine g_iload d_X7_openBy_105 rfl ?_
            refine g_icmp_eq d_X7_openBy_107 (fun c107 => ?_) (fun c107 => ?_)
            · refine g_iload_n d_X7_openBy_112 rfl ?_
              refine g_iload d_X7_openBy_113 rfl ?_
              refine g_if_ge d_X7_openBy_115 (fun c115 => ?_) (fun c115 => absurd (nI_pos' (by omega)) c115)
              refine g_iconst d_X7_openBy_122 ik_1 ?_
              refine g_iload d_X7_openBy_123 rfl ?_
              refine g_ishl d_X7_openBy_125 ?_
              refine g_ixor d_X7_openBy_126 ?_
              refine w_istore_n (L' := [_, _, _, _, _, _, _, _]) d_X7_openBy_127 rfl rfl rfl ?_
              refine w_iinc (L' := [_, _, _, _, _, _, _, _]) d_X7_openBy_128 ik_1 rfl rfl rfl rfl ?_
              refine g_goto d_X7_openBy_131 ?_
              have hbt : ¬ b / 2 ^ f % 2 = 1 := fun z => b2i_eq0.mp (show b2i (nI b >>> (nI f &&& 31) &&& 1 = 1) = 0 from c107) ((bitT b (by omega) f (by omega)).mpr z)
              have hfM : f < M := by rcases Nat.lt_or_ge f M with z | z; exact z; exact absurd (nI_le (a := M) (b := f) z (by omega)) c91
              have hmv : mvN M k b (f + 1) = some (b + 2 ^ f) := by
                rw [mv_y ⟨hfM, ⟨fun z => absurd z hbt, fun z => absurd z hpar⟩⟩, if_neg hbt]
              rw [tT5 b (by omega) f (by omega), if_neg hbt]
              rw [nI_1]
              have q := ih (k + 1) (b + 2 ^ f) (by omega) (by rw [show n - (k + 1) = n - 1 - k by omega, hob]; exact hmv) (tT4 M hM5 b hb f hfM hbt).1 (some (.int (nI f))) (some (.int 0))
              rw [hu1] at q
              exact q
            · refine g_iconst d_X7_openBy_110 ik_m1 ?_
              refine h_iret d_X7_openBy_111 rfl ?_
              have hmv : mvN M k b (f + 1) = none := by
                refine mv_n ?_
                intro q
                refine c107 ?_
                rw [b2i_f (fun z => hpar (q.2.mp ((bitT b (by omega) f (by omega)).mp z)))]
              exact ⟨by rw [show obF M a n row = none by rw [show n = k + 1 + (n - 1 - k) by omega]; exact ob_none (n - 1 - k) (k + 1) (by rw [hob]; exact hmv)]; rfl, rfl⟩
        · have hpar : k % 2 = 0 := by rcases (show k % 2 = 0 ∨ k % 2 = 1 by omega) with z | z; exact z; rw [z] at c73; exact absurd c73 (by decide)
          refine g_iconst d_X7_openBy_76 ik_1 ?_
          refine g_goto d_X7_openBy_77 ?_
          refine w_istore (L' := [_, _, _, _, _, _, _, _]) d_X7_openBy_81 rfl rfl rfl ?_
          refine g_iload d_X7_openBy_83 rfl ?_
          refine g_aload_n d_X7_openBy_85 rfl ?_
          refine h_getR d_X7_openBy_86 fl_7_28 sp_M rfl ?_
          refine g_iconst d_X7_openBy_89 ik_0 ?_
          refine mm_aldV (k := 0) (v := nI M) d_X7_openBy_90 (j := 7) sp_m_d rfl (by decide) rfl (by omega) (by decide) (wM) ?_
          refine g_icmp_ge d_X7_openBy_91 (fun c91 => ?_) (fun c91 => ?_)
          · refine g_iconst d_X7_openBy_110 ik_m1 ?_
            refine h_iret d_X7_openBy_111 rfl ?_
            have hmv : mvN M k b (f + 1) = none := by
              refine mv_n ?_
              intro q
              exact nI_ge (a := f) (b := M) q.1 (by omega) c91
            exact ⟨by rw [show obF M a n row = none by rw [show n = k + 1 + (n - 1 - k) by omega]; exact ob_none (n - 1 - k) (k + 1) (by rw [hob]; exact hmv)]; rfl, rfl⟩
          · refine g_iload d_X7_openBy_94 rfl ?_
            refine g_if_lt d_X7_openBy_96 (fun c96 => absurd c96 (nI_pos (by omega))) (fun c96 => ?_)
            refine g_iload_n d_X7_openBy_99 rfl ?_
            refine g_iload d_X7_openBy_100 rfl ?_
            refine h_S2i d_X7_openBy_102 cl_7_162 m7_has (Nat.le_of_ble_eq_true rfl) (by decide) ?_
            refine g_iload d_X7_openBy_105 rfl ?_
            refine g_icmp_eq d_X7_openBy_107 (fun c107 => ?_) (fun c107 => ?_)
            · refine g_iload_n d_X7_openBy_112 rfl ?_
              refine g_iload d_X7_openBy_113 rfl ?_
              refine g_if_ge d_X7_openBy_115 (fun c115 => ?_) (fun c115 => absurd (nI_pos' (by omega)) c115)
              refine g_iconst d_X7_openBy_122 ik_1 ?_
              refine g_iload d_X7_openBy_123 rfl ?_
              refine g_ishl d_X7_openBy_125 ?_
              refine g_ixor d_X7_openBy_126 ?_
              refine w_istore_n (L' := [_, _, _, _, _, _, _, _]) d_X7_openBy_127 rfl rfl rfl ?_
              refine w_iinc (L' := [_, _, _, _, _, _, _, _]) d_X7_openBy_128 ik_1 rfl rfl rfl rfl ?_
              refine g_goto d_X7_openBy_131 ?_
              have hbt : b / 2 ^ f % 2 = 1 := (bitT b (by omega) f (by omega)).mp (b2i_ne0.mp (by rw [c107]; decide))
              have hfM : f < M := by rcases Nat.lt_or_ge f M with z | z; exact z; exact absurd (nI_le (a := M) (b := f) z (by omega)) c91
              have hmv : mvN M k b (f + 1) = some (b - 2 ^ f) := by
                rw [mv_y ⟨hfM, ⟨fun _ => hpar, fun _ => hbt⟩⟩, if_pos hbt]
              rw [tT5 b (by omega) f (by omega), if_pos hbt]
              rw [nI_1]
              have q := ih (k + 1) (b - 2 ^ f) (by omega) (by rw [show n - (k + 1) = n - 1 - k by omega, hob]; exact hmv) (Nat.lt_of_le_of_lt (Nat.sub_le _ _) hb) (some (.int (nI f))) (some (.int 1))
              rw [hu1] at q
              exact q
            · refine g_iconst d_X7_openBy_110 ik_m1 ?_
              refine h_iret d_X7_openBy_111 rfl ?_
              have hmv : mvN M k b (f + 1) = none := by
                refine mv_n ?_
                intro q
                refine c107 ?_
                rw [b2i_t ((bitT b (by omega) f (by omega)).mpr (q.2.mpr hpar))]
              exact ⟨by rw [show obF M a n row = none by rw [show n = k + 1 + (n - 1 - k) by omega]; exact ob_none (n - 1 - k) (k + 1) (by rw [hob]; exact hmv)]; rfl, rfl⟩
      · refine g_iload d_X7_openBy_58 rfl ?_
        refine g_bipush d_X7_openBy_60 bk_6 ?_
        refine g_idiv d_X7_openBy_62 (by decide) ?_
        refine g_goto d_X7_openBy_63 ?_
        rw [show nI (6 ^ (n - 1 - k)) / 6 = nI (6 ^ (n - 1 - (k + 1))) by rw [← hun, if_pos (by rcases Nat.lt_or_ge 5 (6 ^ (n - 1 - k)) with z | z; exact z; exact absurd (nI_le (a := 6 ^ (n - 1 - k)) (b := 5) z (by decide)) c55)]; exact pk_div (d := 6) (by omega) (by decide) (by decide)]
        refine w_istore (L' := [_, _, _, _, _, _, _, _]) d_X7_openBy_67 rfl rfl rfl ?_
        refine g_iload d_X7_openBy_69 rfl ?_
        refine g_iconst d_X7_openBy_71 ik_2 ?_
        refine g_irem d_X7_openBy_72 (by decide) ?_
        rw [show nI k - nI k / 2 * 2 = nI (k % 2) from pk_rem (d := 2) (by omega) (by decide) (by decide)]
        refine g_if_ne d_X7_openBy_73 (fun c73 => ?_) (fun c73 => ?_)
        · have hpar : ¬ k % 2 = 0 := fun z => by rw [z] at c73; exact c73 rfl
          refine g_iconst d_X7_openBy_80 ik_0 ?_
          refine w_istore (L' := [_, _, _, _, _, _, _, _]) d_X7_openBy_81 rfl rfl rfl ?_
          refine g_iload d_X7_openBy_83 rfl ?_
          refine g_aload_n d_X7_openBy_85 rfl ?_
          refine h_getR d_X7_openBy_86 fl_7_28 sp_M rfl ?_
          refine g_iconst d_X7_openBy_89 ik_0 ?_
          refine mm_aldV (k := 0) (v := nI M) d_X7_openBy_90 (j := 7) sp_m_d rfl (by decide) rfl (by omega) (by decide) (wM) ?_
          refine g_icmp_ge d_X7_openBy_91 (fun c91 => ?_) (fun c91 => ?_)
          · refine g_iconst d_X7_openBy_110 ik_m1 ?_
            refine h_iret d_X7_openBy_111 rfl ?_
            have hmv : mvN M k b (f + 1) = none := by
              refine mv_n ?_
              intro q
              exact nI_ge (a := f) (b := M) q.1 (by omega) c91
            exact ⟨by rw [show obF M a n row = none by rw [show n = k + 1 + (n - 1 - k) by omega]; exact ob_none (n - 1 - k) (k + 1) (by rw [hob]; exact hmv)]; rfl, rfl⟩
          · refine g_iload d_X7_openBy_94 rfl ?_
            refine g_if_lt d_X7_openBy_96 (fun c96 => absurd c96 (nI_pos (by omega))) (fun c96 => ?_)
            refine g_iload_n d_X7_openBy_99 rfl ?_
            refine g_iload d_X7_openBy_100 rfl ?_
            refine h_S2i d_X7_openBy_102 cl_7_162 m7_has (Nat.le_of_ble_eq_true rfl) (by decide) ?_
            refine g_iload d_X7_openBy_105 rfl ?_
            refine g_icmp_eq d_X7_openBy_107 (fun c107 => ?_) (fun c107 => ?_)
            · refine g_iload_n d_X7_openBy_112 rfl ?_
              refine g_iload d_X7_openBy_113 rfl ?_
              refine g_if_ge d_X7_openBy_115 (fun c115 => ?_) (fun c115 => absurd (nI_pos' (by omega)) c115)
              refine g_iconst d_X7_openBy_122 ik_1 ?_
              refine g_iload d_X7_openBy_123 rfl ?_
              refine g_ishl d_X7_openBy_125 ?_
              refine g_ixor d_X7_openBy_126 ?_
              refine w_istore_n (L' := [_, _, _, _, _, _, _, _]) d_X7_openBy_127 rfl rfl rfl ?_
              refine w_iinc (L' := [_, _, _, _, _, _, _, _]) d_X7_openBy_128 ik_1 rfl rfl rfl rfl ?_
              refine g_goto d_X7_openBy_131 ?_
              have hbt : ¬ b / 2 ^ f % 2 = 1 := fun z => b2i_eq0.mp (show b2i (nI b >>> (nI f &&& 31) &&& 1 = 1) = 0 from c107) ((bitT b (by omega) f (by omega)).mpr z)
              have hfM : f < M := by rcases Nat.lt_or_ge f M with z | z; exact z; exact absurd (nI_le (a := M) (b := f) z (by omega)) c91
              have hmv : mvN M k b (f + 1) = some (b + 2 ^ f) := by
                rw [mv_y ⟨hfM, ⟨fun z => absurd z hbt, fun z => absurd z hpar⟩⟩, if_neg hbt]
              rw [tT5 b (by omega) f (by omega), if_neg hbt]
              rw [nI_1]
              have q := ih (k + 1) (b + 2 ^ f) (by omega) (by rw [show n - (k + 1) = n - 1 - k by omega, hob]; exact hmv) (tT4 M hM5 b hb f hfM hbt).1 (some (.int (nI f))) (some (.int 0))
              exact q
            · refine g_iconst d_X7_openBy_110 ik_m1 ?_
              refine h_iret d_X7_openBy_111 rfl ?_
              have hmv : mvN M k b (f + 1) = none := by
                refine mv_n ?_
                intro q
                refine c107 ?_
                rw [b2i_f (fun z => hpar (q.2.mp ((bitT b (by omega) f (by omega)).mp z)))]
              exact ⟨by rw [show obF M a n row = none by rw [show n = k + 1 + (n - 1 - k) by omega]; exact ob_none (n - 1 - k) (k + 1) (by rw [hob]; exact hmv)]; rfl, rfl⟩
        · have hpar : k % 2 = 0 := by rcases (show k % 2 = 0 ∨ k % 2 = 1 by omega) with z | z; exact z; rw [z] at c73; exact absurd c73 (by decide)
          refine g_iconst d_X7_openBy_76 ik_1 ?_
          refine g_goto d_X7_openBy_77 ?_
          refine w_istore (L' := [_, _, _, _, _, _, _, _]) d_X7_openBy_81 rfl rfl rfl ?_
          refine g_iload d_X7_openBy_83 rfl ?_
          refine g_aload_n d_X7_openBy_85 rfl ?_
          refine h_getR d_X7_openBy_86 fl_7_28 sp_M rfl ?_
          refine g_iconst d_X7_openBy_89 ik_0 ?_
          refine mm_aldV (k := 0) (v := nI M) d_X7_openBy_90 (j := 7) sp_m_d rfl (by decide) rfl (by omega) (by decide) (wM) ?_
          refine g_icmp_ge d_X7_openBy_91 (fun c91 => ?_) (fun c91 => ?_)
          · refine g_iconst d_X7_openBy_110 ik_m1 ?_
            refine h_iret d_X7_openBy_111 rfl ?_
            have hmv : mvN M k b (f + 1) = none := by
              refine mv_n ?_
              intro q
              exact nI_ge (a := f) (b := M) q.1 (by omega) c91
            exact ⟨by rw [show obF M a n row = none by rw [show n = k + 1 + (n - 1 - k) by omega]; exact ob_none (n - 1 - k) (k + 1) (by rw [hob]; exact hmv)]; rfl, rfl⟩
          · refine g_iload d_X7_openBy_94 rfl ?_
            refine g_if_lt d_X7_openBy_96 (fun c96 => absurd c96 (nI_pos (by omega))) (fun c96 => ?_)
            refine g_iload_n d_X7_openBy_99 rfl ?_
            refine g_iload d_X7_openBy_100 rfl ?_
            refine h_S2i d_X7_openBy_102 cl_7_162 m7_has (Nat.le_of_ble_eq_true rfl) (by decide) ?_
            refine g_iload d_X7_openBy_105 rfl ?_
            refine g_icmp_eq d_X7_openBy_107 (fun c107 => ?_) (fun c107 => ?_)
            · refine g_iload_n d_X7_openBy_112 rfl ?_
              refine g_iload d_X7_openBy_113 rfl ?_
              refine g_if_ge d_X7_openBy_115 (fun c115 => ?_) (fun c115 => absurd (nI_pos' (by omega)) c115)
              refine g_iconst d_X7_openBy_122 ik_1 ?_
              refine g_iload d_X7_openBy_123 rfl ?_
              refine g_ishl d_X7_openBy_125 ?_
              refine g_ixor d_X7_openBy_126 ?_
              refine w_istore_n (L' := [_, _, _, _, _, _, _, _]) d_X7_openBy_127 rfl rfl rfl ?_
              refine w_iinc (L' := [_, _, _, _, _, _, _, _]) d_X7_openBy_128 ik_1 rfl rfl rfl rfl ?_
              refine g_goto d_X7_openBy_131 ?_
              have hbt : b / 2 ^ f % 2 = 1 := (bitT b (by omega) f (by omega)).mp (b2i_ne0.mp (by rw [c107]; decide))
              have hfM : f < M := by rcases Nat.lt_or_ge f M with z | z; exact z; exact absurd (nI_le (a := M) (b := f) z (by omega)) c91
              have hmv : mvN M k b (f + 1) = some (b - 2 ^ f) := by
                rw [mv_y ⟨hfM, ⟨fun _ => hpar, fun _ => hbt⟩⟩, if_pos hbt]
              rw [tT5 b (by omega) f (by omega), if_pos hbt]
              rw [nI_1]
              have q := ih (k + 1) (b - 2 ^ f) (by omega) (by rw [show n - (k + 1) = n - 1 - k by omega, hob]; exact hmv) (Nat.lt_of_le_of_lt (Nat.sub_le _ _) hb) (some (.int (nI f))) (some (.int 1))
              exact q
            · refine g_iconst d_X7_openBy_110 ik_m1 ?_
              refine h_iret d_X7_openBy_111 rfl ?_
              have hmv : mvN M k b (f + 1) = none := by
                refine mv_n ?_
                intro q
                refine c107 ?_
                rw [b2i_t ((bitT b (by omega) f (by omega)).mpr (q.2.mpr hpar))]
              exact ⟨by rw [show obF M a n row = none by rw [show n = k + 1 + (n - 1 - k) by omega]; exact ob_none (n - 1 - k) (k + 1) (by rw [hob]; exact hmv)]; rfl, rfl⟩
theorem m7_openBy {h w : Hv} {M a row n : Nat} (hM5 : M ≤ 5) (wM : w 7 0 = nI M) (hn : n ≤ 4) (hrow : row < 1296) (wo : w 8 2 = nI a) (ha : a < 2 ^ M) {x y : Int32} (ex : x = nI row) (ey : y = nI n) (hr2 : row < 6 ^ n) : MtF M_X7_openBy 1 [.ref 360, .int x, .int y] (mu h w) (some (.int (oI (obF M a n row)))) (mu h w) := by
  subst ex
  subst ey
  refine MtF.of [some (.ref 360), some (.int (nI row)), some (.int (nI n)), none, none, none, none, none] pl_X7 rfl rfl ?_
  refine g_aload_n d_X7_openBy_0 rfl ?_
  refine h_getR d_X7_openBy_1 fl_7_31 sp_M rfl ?_
  refine g_iconst d_X7_openBy_4 ik_2 ?_
  refine mm_aldV (k := 2) (v := nI a) d_X7_openBy_5 (j := 8) sp_m_s rfl (by decide) rfl (by omega) (by decide) (wo) ?_
  refine w_istore_n (L' := [_, _, _, _, _, _, _, _]) d_X7_openBy_6 rfl rfl rfl ?_
  refine g_iconst d_X7_openBy_7 ik_1 ?_
  refine w_istore (L' := [_, _, _, _, _, _, _, _]) d_X7_openBy_8 rfl rfl rfl ?_
  refine g_iconst d_X7_openBy_10 ik_1 ?_
  refine w_istore (L' := [_, _, _, _, _, _, _, _]) d_X7_openBy_11 rfl rfl rfl ?_
  have kk : ∀ v5, GdH M_X7_openBy 1 32 [some (.ref 360), some (.int (nI row)), some (.int (nI n)), some (.int (nI a)), some (.int (nI (6 ^ (n - 1)))), some (.int v5), none, none] [] (mu h w) (fun v' h' => v' = some (.int (oI (obF M a n row))) ∧ h' = mu h w) := by
    intro v5
    refine g_iconst d_X7_openBy_32 ik_0 ?_
    refine w_istore (L' := [_, _, _, _, _, _, _, _]) d_X7_openBy_33 rfl rfl rfl ?_
    exact lp_obB hM5 wM hn hrow n 0 a (by omega) rfl ha _ _
  rcases Nat.eq_zero_or_pos n with hn0 | hn0
  · subst hn0
    refine g_iload d_X7_openBy_13 rfl ?_
    refine g_iload_n d_X7_openBy_15 rfl ?_
    refine g_icmp_ge d_X7_openBy_16 (fun c16 => ?_) (fun c16 => absurd (by decide) c16)
    exact kk _
  · exact lp_obA hn kk (n - 1) 0 (by omega)
theorem lp_bt7p {H : Hv} {v2 : Int32} {e : Nat} (he : e ≤ 4) {P : Option Value → Hv → Prop} (kx : GdH M_X7_byTurns 4 59 [some (.ref 360), some (.int (nI e)), some (.int v2), some (.int (nI (6 ^ e))), some (.int (nI e)), none, none, none, none, none] [] (H) P) : ∀ (n j : Nat), j + n = e → GdH M_X7_byTurns 4 42 [some (.ref 360), some (.int (nI e)), some (.int v2), some (.int (nI (6 ^ j))), some (.int (nI j)), none, none, none, none, none] [] (H) P := by
  intro n
  induction n with
  | zero =>
    intro j hj
    have hj' : j = e := by omega
    rw [hj']
    refine g_iload d_X7_byTurns_42 rfl ?_
    refine g_iload_n d_X7_byTurns_44 rfl ?_
    refine g_icmp_ge d_X7_byTurns_45 (fun c45 => ?_) (fun c45 => absurd (nI_le (a := e) (b := e) (Nat.le_refl _) (by omega)) c45)
    exact kx
  | succ n ih =>
    intro j hj
    refine g_iload d_X7_byTurns_42 rfl ?_
    refine g_iload_n d_X7_byTurns_44 rfl ?_
    refine g_icmp_ge d_X7_byTurns_45 (fun c45 => absurd c45 (nI_ge (a := j) (b := e) (by omega) (by omega))) (fun c45 => ?_)
    refine g_iload_n d_X7_byTurns_48 rfl ?_
    refine g_bipush d_X7_byTurns_49 bk_6 ?_
    refine g_imul d_X7_byTurns_51 ?_
    refine w_istore_n (L' := [_, _, _, _, _, _, _, _, _, _]) d_X7_byTurns_52 rfl rfl rfl ?_
    refine w_iinc (L' := [_, _, _, _, _, _, _, _, _, _]) d_X7_byTurns_53 ik_1 rfl rfl rfl rfl ?_
    refine g_goto d_X7_byTurns_56 ?_
    have q := ih (j + 1) (by omega)
    rw [show nI (6 ^ (j + 1)) = nI (6 ^ j) * 6 by rw [Nat.pow_succ]; exact (nMul rfl rfl).symm] at q
    rw [nI_1]
    exact q
theorem lp_bt7a {h w g : Hv} {M N n m a : Nat} (hI : HI M N g) (wN : w 7 1 = nI N) (wM : w 7 0 = nI M) (hR : Rep0 M N g w 7 8) (hrk : ∀ j, j < N → g 11 j = nI j) (eo : g 0 4 = nI a) (ha : a < 2 ^ M) (hn : n ≤ 4) (hm : m ≤ 20) {P : Option Value → Hv → Prop} (kx : ∀ (w' : Hv) (y5 y6 y7 y8 y9 : Option Value), FrS w w' → (∀ y, y < 6 ^ n → w' 16 y = vO (dryD M N m g) (obF M a n y)) → GdH M_X7_byTurns 4 136 [some (.ref 360), some (.int (nI n)), some (.int (nI m)), some (.int (nI (6 ^ n))), some (.int (nI (6 ^ n))), y5, y6, y7, y8, y9] [] (mu h w') P) : ∀ (c r : Nat), r + c = 6 ^ n → ∀ (w' : Hv) (y5 y6 y7 y8 y9 : Option Value), FrS w w' → (∀ y, y < r → w' 16 y = vO (dryD M N m g) (obF M a n y)) → GdH M_X7_byTurns 4 62 [some (.ref 360), some (.int (nI n)), some (.int (nI m)), some (.int (nI (6 ^ n))), some (.int (nI r)), y5, y6, y7, y8, y9] [] (mu h w') P := by
  have hM5 := hI.hM5
  have hN6 := hI.hN6
  have h32 := pow5 hM5
  have h6 := pow6_le hn
  intro c
  induction c with
  | zero =>
    intro r hr w' y5 y6 y7 y8 y9 hf h1
    have hr' : r = 6 ^ n := by omega
    subst hr'
    refine g_iload d_X7_byTurns_62 rfl ?_
    refine g_iload_n d_X7_byTurns_64 rfl ?_
    refine g_icmp_ge d_X7_byTurns_65 (fun c65 => ?_) (fun c65 => absurd (nI_le (a := 6 ^ n) (b := 6 ^ n) (Nat.le_refl _) (by omega)) c65)
    exact kx w' y5 y6 y7 y8 y9 hf h1
  | succ c ih =>
    intro r hr w' y5 y6 y7 y8 y9 hf h1
    refine g_iload d_X7_byTurns_62 rfl ?_
    refine g_iload_n d_X7_byTurns_64 rfl ?_
    refine g_icmp_ge d_X7_byTurns_65 (fun c65 => absurd c65 (nI_ge (a := r) (b := 6 ^ n) (by omega) (by omega))) (fun c65 => ?_)
    refine g_aload_n d_X7_byTurns_68 rfl ?_
    refine g_iload d_X7_byTurns_69 rfl ?_
    refine g_iload_n d_X7_byTurns_71 rfl ?_
    refine h_V2i d_X7_byTurns_72 cl_7_237 (m7_openBy (a := a) hM5 ((hf 7 0 (by decide) (by decide) (by decide) (by decide) (by decide) (by omega)).trans wM) hn (by omega) ((hf 8 2 (by decide) (by decide) (by decide) (by decide) (by decide) (by omega)).trans (hR.1.2.2.2.2.symm.trans eo)) ha rfl rfl (by omega)) sp_M (by decide) rfl (Nat.le_of_ble_eq_true rfl) (by decide) ?_
    refine w_istore (L' := [_, _, _, _, _, _, _, _, _, _]) d_X7_byTurns_75 rfl rfl rfl ?_
    refine g_aload_n d_X7_byTurns_77 rfl ?_
    refine h_getR d_X7_byTurns_78 fl_7_56 sp_M rfl ?_
    refine g_iload d_X7_byTurns_81 rfl ?_
    refine g_iconst d_X7_byTurns_83 ik_m1 ?_
    refine mm_astE (k := r) d_X7_byTurns_84 (j := 16) sp_m_value6 rfl (by decide) rfl (by omega) (by decide) ?_
    refine g_iload d_X7_byTurns_85 rfl ?_
    refine g_if_lt d_X7_byTurns_87 (fun c87 => ?_) (fun c87 => ?_)
    · refine w_iinc (L' := [_, _, _, _, _, _, _, _, _, _]) d_X7_byTurns_130 ik_1 rfl rfl rfl rfl ?_
      refine g_goto d_X7_byTurns_133 ?_
      rw [nI_1]
      refine ih (r + 1) (by omega) _ _ _ _ _ _ (hf.set (by omega)) (fun y hy => ?_)
      by_cases e : y = r
      · subst e
        rw [hs_at]
        cases hz : obF M a n y with
        | none => rfl
        | some b => rw [hz] at c87; exact absurd c87 (nI_pos (by have := ob_lt hM5 ha n y b hz; omega))
      · rw [hs_b e]; exact h1 y (by omega)
    · obtain ⟨b, hz⟩ : ∃ b, obF M a n r = some b := by
        cases hz : obF M a n r with
        | none => rw [hz] at c87; exact absurd (by decide) c87
        | some b => exact ⟨b, rfl⟩
      have hb := ob_lt hM5 ha n r b hz
      rw [hz]
      have hIb := hI.openb (b := b) hb
      have hI2 := hIb.tickN m
      have hfv : FrS w (hset w' 16 r (-1)) := hf.set (by omega)
      have hn0 := rep_now (hfv.r0 hR hI.hM5 hI.hN6) hI.hM5 hI.hN6 hrk
      have hn1 := rep_04 (v := nI b) hn0 (Or.inr ⟨rfl, rfl⟩) hI.hM5 hI.hN6
      refine g_aload_n d_X7_byTurns_90 rfl ?_
      refine h_V0v d_X7_byTurns_91 cl_7_178 m7_asNow sp_M (by decide) rfl (Nat.le_of_ble_eq_true rfl) (by decide) ?_
      refine g_aload_n d_X7_byTurns_94 rfl ?_
      refine h_V0v d_X7_byTurns_95 cl_7_181 m7_ranksByNumber sp_M (by decide) rfl (Nat.le_of_ble_eq_true rfl) (by decide) ?_
      refine g_aload_n d_X7_byTurns_98 rfl ?_
      refine h_getR d_X7_byTurns_99 fl_7_37 sp_M rfl ?_
      refine g_iconst d_X7_byTurns_102 ik_2 ?_
      refine g_iload d_X7_byTurns_103 rfl ?_
      refine mm_astE (k := 2) d_X7_byTurns_105 (j := 10) sp_m_w rfl (by decide) rfl (by omega) (by decide) ?_
      refine g_aload_n d_X7_byTurns_106 rfl ?_
      refine g_iload_n d_X7_byTurns_107 rfl ?_
      refine h_V1P d_X7_byTurns_108 cl_7_184 (m7_foretells hn1 hIb rfl (by omega)) sp_M (by decide) rfl (Nat.le_of_ble_eq_true rfl) (by decide) ?_
      intro v' h' hp
      obtain ⟨rfl, w2, rfl, hr2, hf2, hd2⟩ := hp
      have hf3 := hfv.tr (((nowR_fs (w := hset w' 16 r (-1))).set (j := 10) (by omega)).tr hf2.fs)
      refine g_aload_n d_X7_byTurns_111 rfl ?_
      refine h_getR d_X7_byTurns_112 fl_7_56 sp_M rfl ?_
      refine g_iload d_X7_byTurns_115 rfl ?_
      refine g_aload_n d_X7_byTurns_117 rfl ?_
      refine g_aload_n d_X7_byTurns_118 rfl ?_
      refine h_getR d_X7_byTurns_119 fl_7_37 sp_M rfl ?_
      refine g_iconst d_X7_byTurns_122 ik_2 ?_
      refine h_V2i d_X7_byTurns_123 cl_7_191 (m7_howAll ar_w hr2.r0 hN6 (hf3.w71 wN)) sp_M (by decide) rfl (Nat.le_of_ble_eq_true rfl) (by decide) ?_
      refine h_S1i d_X7_byTurns_126 cl_7_228 (m7_ones (whS_eq _ 2 _ hN6) (Nat.lt_of_lt_of_le (whN_lt _ 2 _) (pow6 hN6))) (Nat.le_of_ble_eq_true rfl) (by decide) ?_
      refine mm_astE (k := r) d_X7_byTurns_129 (j := 16) sp_m_value6 rfl (by decide) rfl (by omega) (by decide) ?_
      refine w_iinc (L' := [_, _, _, _, _, _, _, _, _, _]) d_X7_byTurns_130 ik_1 rfl rfl rfl rfl ?_
      refine g_goto d_X7_byTurns_133 ?_
      rw [cntS_eq _ 2 _ hN6]
      rw [nI_1]
      refine ih (r + 1) (by omega) _ _ _ _ _ _ (hf3.set (by omega)) (fun y hy => ?_)
      by_cases e : y = r
      · subst e
        rw [hs_at, hz]
        rfl
      · rw [hs_b e, hf2 16 y (by omega) (by omega), hs_j (by decide)]
        unfold nowR
        rw [rkW_j (by decide)]
        unfold nowW
        rw [hs_j (by decide)]
        unfold cpW
        rw [if_neg (by omega), if_neg (by omega), hs_b e]
        exact h1 y (by omega)
theorem par0 {k : Nat} (h : nI (k % 2) = 0) : k % 2 = 0 := by
  rcases (show k % 2 = 0 ∨ k % 2 = 1 by omega) with z | z
  · exact z
  · rw [z] at h; exact absurd h (by decide)
theorem par1 {k : Nat} (h : ¬ nI (k % 2) = 0) : ¬ k % 2 = 0 := fun z => h (by rw [z]; rfl)
theorem lp_bt7f {h w : Hv} {q k : Nat} {v1 v2 v3 : Int32} (hq : 6 * q + 6 ≤ 1296) (hk : k < 4) {P : Option Value → Hv → Prop} (kx : ∀ (y8 y9 : Option Value), GdH M_X7_byTurns 4 249 [some (.ref 360), some (.int v1), some (.int v2), some (.int v3), some (.int (nI k)), some (.int (nI q)), some (.int (itN k (fun f => w 16 (6 * q + f)) 6)), some (.int (nI 6)), y8, y9] [] (mu h w) P) : ∀ (c f : Nat), f + c = 6 → ∀ (y8 y9 : Option Value), GdH M_X7_byTurns 4 166 [some (.ref 360), some (.int v1), some (.int v2), some (.int v3), some (.int (nI k)), some (.int (nI q)), some (.int (itN k (fun f => w 16 (6 * q + f)) f)), some (.int (nI f)), y8, y9] [] (mu h w) P := by
  intro c
  induction c with
  | zero =>
    intro f hf y8 y9
    have hf' : f = 6 := by omega
    subst hf'
    refine g_iload d_X7_byTurns_166 rfl ?_
    refine g_bipush d_X7_byTurns_168 bk_6 ?_
    refine g_icmp_ge d_X7_byTurns_170 (fun c170 => ?_) (fun c170 => absurd (by decide) c170)
    exact kx y8 y9
  | succ c ih =>
    intro f hf y8 y9
    refine g_iload d_X7_byTurns_166 rfl ?_
    refine g_bipush d_X7_byTurns_168 bk_6 ?_
    refine g_icmp_ge d_X7_byTurns_170 (fun c170 => absurd c170 (nI_ge (a := f) (b := 6) (by omega) (by omega))) (fun c170 => ?_)
    refine g_aload_n d_X7_byTurns_173 rfl ?_
    refine h_getR d_X7_byTurns_174 fl_7_56 sp_M rfl ?_
    refine g_bipush d_X7_byTurns_177 bk_6 ?_
    refine g_iload d_X7_byTurns_179 rfl ?_
    refine g_imul d_X7_byTurns_181 ?_
    refine g_iload d_X7_byTurns_182 rfl ?_
    refine g_iadd d_X7_byTurns_184 ?_
    refine mm_aldV (k := ((6 * q) + f)) (v := w 16 (6 * q + f)) d_X7_byTurns_185 (j := 16) sp_m_value6 rfl (by decide) (nAdd (nMul rfl rfl) rfl) (by omega) (by decide) (rfl) ?_
    refine w_istore (L' := [_, _, _, _, _, _, _, _, _, _]) d_X7_byTurns_186 rfl rfl rfl ?_
    refine g_iload d_X7_byTurns_188 rfl ?_
    refine g_if_lt d_X7_byTurns_190 (fun c190 => ?_) (fun c190 => ?_)
    · refine g_iconst d_X7_byTurns_217 ik_1 ?_
      refine g_goto d_X7_byTurns_218 ?_
      refine w_istore (L' := [_, _, _, _, _, _, _, _, _, _]) d_X7_byTurns_222 rfl rfl rfl ?_
      refine g_iload d_X7_byTurns_224 rfl ?_
      refine g_if_lt d_X7_byTurns_226 (fun c226 => ?_) (fun c226 => ?_)
      · refine g_iload d_X7_byTurns_239 rfl ?_
        refine w_istore (L' := [_, _, _, _, _, _, _, _, _, _]) d_X7_byTurns_241 rfl rfl rfl ?_
        refine w_iinc (L' := [_, _, _, _, _, _, _, _, _, _]) d_X7_byTurns_243 ik_1 rfl rfl rfl rfl ?_
        refine g_goto d_X7_byTurns_246 ?_
        rw [nI_1]
        have q9 := ih (f + 1) (by omega) (some (.int (w 16 (6 * q + f)))) (some (.int 1))
        rw [itN, show stp k (itN k (fun f => w 16 (6 * q + f)) f) (w 16 (6 * q + f)) = itN k (fun f => w 16 (6 * q + f)) f from if_pos c226] at q9
        exact q9
      · refine g_iload d_X7_byTurns_229 rfl ?_
        refine g_if_eq d_X7_byTurns_231 (fun c231 => absurd c231 (by decide)) (fun c231 => ?_)
        refine g_iload d_X7_byTurns_234 rfl ?_
        refine g_goto d_X7_byTurns_236 ?_
        refine w_istore (L' := [_, _, _, _, _, _, _, _, _, _]) d_X7_byTurns_241 rfl rfl rfl ?_
        refine w_iinc (L' := [_, _, _, _, _, _, _, _, _, _]) d_X7_byTurns_243 ik_1 rfl rfl rfl rfl ?_
        refine g_goto d_X7_byTurns_246 ?_
        rw [nI_1]
        have q9 := ih (f + 1) (by omega) (some (.int (w 16 (6 * q + f)))) (some (.int 1))
        rw [itN, show stp k (itN k (fun f => w 16 (6 * q + f)) f) (w 16 (6 * q + f)) = w 16 (6 * q + f) from (if_neg c226).trans (if_pos (Or.inl c190))] at q9
        exact q9
    · refine g_iload d_X7_byTurns_193 rfl ?_
      refine g_iconst d_X7_byTurns_195 ik_2 ?_
      refine g_irem d_X7_byTurns_196 (by decide) ?_
      rw [show nI k - nI k / 2 * 2 = nI (k % 2) from pk_rem (d := 2) (by omega) (by decide) (by decide)]
      refine g_if_ne d_X7_byTurns_197 (fun c197 => ?_) (fun c197 => ?_)
      · refine g_iload d_X7_byTurns_210 rfl ?_
        refine g_iload d_X7_byTurns_212 rfl ?_
        refine g_icmp_le d_X7_byTurns_214 (fun c214 => ?_) (fun c214 => ?_)
        · refine g_iconst d_X7_byTurns_221 ik_0 ?_
          refine w_istore (L' := [_, _, _, _, _, _, _, _, _, _]) d_X7_byTurns_222 rfl rfl rfl ?_
          refine g_iload d_X7_byTurns_224 rfl ?_
          refine g_if_lt d_X7_byTurns_226 (fun c226 => ?_) (fun c226 => ?_)
          · refine g_iload d_X7_byTurns_239 rfl ?_
            refine w_istore (L' := [_, _, _, _, _, _, _, _, _, _]) d_X7_byTurns_241 rfl rfl rfl ?_
            refine w_iinc (L' := [_, _, _, _, _, _, _, _, _, _]) d_X7_byTurns_243 ik_1 rfl rfl rfl rfl ?_
            refine g_goto d_X7_byTurns_246 ?_
            rw [nI_1]
            have q9 := ih (f + 1) (by omega) (some (.int (w 16 (6 * q + f)))) (some (.int 0))
            rw [itN, show stp k (itN k (fun f => w 16 (6 * q + f)) f) (w 16 (6 * q + f)) = itN k (fun f => w 16 (6 * q + f)) f from if_pos c226] at q9
            exact q9
          · refine g_iload d_X7_byTurns_229 rfl ?_
            refine g_if_eq d_X7_byTurns_231 (fun c231 => ?_) (fun c231 => absurd c231 (by decide))
            refine g_iload d_X7_byTurns_239 rfl ?_
            refine w_istore (L' := [_, _, _, _, _, _, _, _, _, _]) d_X7_byTurns_241 rfl rfl rfl ?_
            refine w_iinc (L' := [_, _, _, _, _, _, _, _, _, _]) d_X7_byTurns_243 ik_1 rfl rfl rfl rfl ?_
            refine g_goto d_X7_byTurns_246 ?_
            rw [nI_1]
            have q9 := ih (f + 1) (by omega) (some (.int (w 16 (6 * q + f)))) (some (.int 0))
            rw [itN, show stp k (itN k (fun f => w 16 (6 * q + f)) f) (w 16 (6 * q + f)) = itN k (fun f => w 16 (6 * q + f)) f from (if_neg c226).trans (if_neg (fun z => z.elim c190 (fun z => by rw [if_neg (par1 c197)] at z; exact absurd c214 (Int32.not_le.mpr z))))] at q9
            exact q9
        · refine g_iconst d_X7_byTurns_217 ik_1 ?_
          refine g_goto d_X7_byTurns_218 ?_
          refine w_istore (L' := [_, _, _, _, _, _, _, _, _, _]) d_X7_byTurns_222 rfl rfl rfl ?_
          refine g_iload d_X7_byTurns_224 rfl ?_
          refine g_if_lt d_X7_byTurns_226 (fun c226 => ?_) (fun c226 => ?_)
          · refine g_iload d_X7_byTurns_239 rfl ?_
            refine w_istore (L' := [_, _, _, _, _, _, _, _, _, _]) d_X7_byTurns_241 rfl rfl rfl ?_
            refine w_iinc (L' := [_, _, _, _, _, _, _, _, _, _]) d_X7_byTurns_243 ik_1 rfl rfl rfl rfl ?_
            refine g_goto d_X7_byTurns_246 ?_
            rw [nI_1]
            have q9 := ih (f + 1) (by omega) (some (.int (w 16 (6 * q + f)))) (some (.int 1))
            rw [itN, show stp k (itN k (fun f => w 16 (6 * q + f)) f) (w 16 (6 * q + f)) = itN k (fun f => w 16 (6 * q + f)) f from if_pos c226] at q9
            exact q9
          · refine g_iload d_X7_byTurns_229 rfl ?_
            refine g_if_eq d_X7_byTurns_231 (fun c231 => absurd c231 (by decide)) (fun c231 => ?_)
            refine g_iload d_X7_byTurns_234 rfl ?_
            refine g_goto d_X7_byTurns_236 ?_
            refine w_istore (L' := [_, _, _, _, _, _, _, _, _, _]) d_X7_byTurns_241 rfl rfl rfl ?_
            refine w_iinc (L' := [_, _, _, _, _, _, _, _, _, _]) d_X7_byTurns_243 ik_1 rfl rfl rfl rfl ?_
            refine g_goto d_X7_byTurns_246 ?_
            rw [nI_1]
            have q9 := ih (f + 1) (by omega) (some (.int (w 16 (6 * q + f)))) (some (.int 1))
            rw [itN, show stp k (itN k (fun f => w 16 (6 * q + f)) f) (w 16 (6 * q + f)) = w 16 (6 * q + f) from (if_neg c226).trans (if_pos (Or.inr (by rw [if_neg (par1 c197)]; exact Int32.not_le.mp c214)))] at q9
            exact q9
      · refine g_iload d_X7_byTurns_200 rfl ?_
        refine g_iload d_X7_byTurns_202 rfl ?_
        refine g_icmp_ge d_X7_byTurns_204 (fun c204 => ?_) (fun c204 => ?_)
        · refine g_iconst d_X7_byTurns_221 ik_0 ?_
          refine w_istore (L' := [_, _, _, _, _, _, _, _, _, _]) d_X7_byTurns_222 rfl rfl rfl ?_
          refine g_iload d_X7_byTurns_224 rfl ?_
          refine g_if_lt d_X7_byTurns_226 (fun c226 => ?_) (fun c226 => ?_)
          · refine g_iload d_X7_byTurns_239 rfl ?_
            refine w_istore (L' := [_, _, _, _, _, _, _, _, _, _]) d_X7_byTurns_241 rfl rfl rfl ?_
            refine w_iinc (L' := [_, _, _, _, _, _, _, _, _, _]) d_X7_byTurns_243 ik_1 rfl rfl rfl rfl ?_
            refine g_goto d_X7_byTurns_246 ?_
            rw [nI_1]
            have q9 := ih (f + 1) (by omega) (some (.int (w 16 (6 * q + f)))) (some (.int 0))
            rw [itN, show stp k (itN k (fun f => w 16 (6 * q + f)) f) (w 16 (6 * q + f)) = itN k (fun f => w 16 (6 * q + f)) f from if_pos c226] at q9
            exact q9
          · refine g_iload d_X7_byTurns_229 rfl ?_
            refine g_if_eq d_X7_byTurns_231 (fun c231 => ?_) (fun c231 => absurd c231 (by decide))
            refine g_iload d_X7_byTurns_239 rfl ?_
            refine w_istore (L' := [_, _, _, _, _, _, _, _, _, _]) d_X7_byTurns_241 rfl rfl rfl ?_
            refine w_iinc (L' := [_, _, _, _, _, _, _, _, _, _]) d_X7_byTurns_243 ik_1 rfl rfl rfl rfl ?_
            refine g_goto d_X7_byTurns_246 ?_
            rw [nI_1]
            have q9 := ih (f + 1) (by omega) (some (.int (w 16 (6 * q + f)))) (some (.int 0))
            rw [itN, show stp k (itN k (fun f => w 16 (6 * q + f)) f) (w 16 (6 * q + f)) = itN k (fun f => w 16 (6 * q + f)) f from (if_neg c226).trans (if_neg (fun z => z.elim c190 (fun z => by rw [if_pos (par0 c197)] at z; exact absurd c204 (Int32.not_le.mpr z))))] at q9
            exact q9
        · refine g_goto d_X7_byTurns_207 ?_
          refine g_iconst d_X7_byTurns_217 ik_1 ?_
          refine g_goto d_X7_byTurns_218 ?_
          refine w_istore (L' := [_, _, _, _, _, _, _, _, _, _]) d_X7_byTurns_222 rfl rfl rfl ?_
          refine g_iload d_X7_byTurns_224 rfl ?_
          refine g_if_lt d_X7_byTurns_226 (fun c226 => ?_) (fun c226 => ?_)
          · refine g_iload d_X7_byTurns_239 rfl ?_
            refine w_istore (L' := [_, _, _, _, _, _, _, _, _, _]) d_X7_byTurns_241 rfl rfl rfl ?_
            refine w_iinc (L' := [_, _, _, _, _, _, _, _, _, _]) d_X7_byTurns_243 ik_1 rfl rfl rfl rfl ?_
            refine g_goto d_X7_byTurns_246 ?_
            rw [nI_1]
            have q9 := ih (f + 1) (by omega) (some (.int (w 16 (6 * q + f)))) (some (.int 1))
            rw [itN, show stp k (itN k (fun f => w 16 (6 * q + f)) f) (w 16 (6 * q + f)) = itN k (fun f => w 16 (6 * q + f)) f from if_pos c226] at q9
            exact q9
          · refine g_iload d_X7_byTurns_229 rfl ?_
            refine g_if_eq d_X7_byTurns_231 (fun c231 => absurd c231 (by decide)) (fun c231 => ?_)
            refine g_iload d_X7_byTurns_234 rfl ?_
            refine g_goto d_X7_byTurns_236 ?_
            refine w_istore (L' := [_, _, _, _, _, _, _, _, _, _]) d_X7_byTurns_241 rfl rfl rfl ?_
            refine w_iinc (L' := [_, _, _, _, _, _, _, _, _, _]) d_X7_byTurns_243 ik_1 rfl rfl rfl rfl ?_
            refine g_goto d_X7_byTurns_246 ?_
            rw [nI_1]
            have q9 := ih (f + 1) (by omega) (some (.int (w 16 (6 * q + f)))) (some (.int 1))
            rw [itN, show stp k (itN k (fun f => w 16 (6 * q + f)) f) (w 16 (6 * q + f)) = w 16 (6 * q + f) from (if_neg c226).trans (if_pos (Or.inr (by rw [if_pos (par0 c197)]; exact Int32.not_le.mp c204)))] at q9
            exact q9
theorem lp_bt7r {h w g : Hv} {M N n m a : Nat} (hM5 : M ≤ 5) (hN6 : N ≤ 6) (hn : n ≤ 4) {k : Nat} (hk : k < n) {P : Option Value → Hv → Prop} (kx : ∀ (w' : Hv) (y6 y7 y8 y9 : Option Value), FrS w w' → (∀ y, y < 6 ^ k → w' 16 y = vO (lev M (dryD M N m g) n (n - k)) (obF M a k y)) → GdH M_X7_byTurns 4 264 [some (.ref 360), some (.int (nI n)), some (.int (nI m)), some (.int (nI (6 ^ k))), some (.int (nI k)), some (.int (nI (6 ^ k))), y6, y7, y8, y9] [] (mu h w') P) : ∀ (c q : Nat), q + c = 6 ^ k → ∀ (w' : Hv) (y6 y7 y8 y9 : Option Value), FrS w w' → (∀ y, y < q → w' 16 y = vO (lev M (dryD M N m g) n (n - k)) (obF M a k y)) → (∀ y, q ≤ y → y < 6 ^ (k + 1) → w' 16 y = vO (lev M (dryD M N m g) n (n - (k + 1))) (obF M a (k + 1) y)) → GdH M_X7_byTurns 4 154 [some (.ref 360), some (.int (nI n)), some (.int (nI m)), some (.int (nI (6 ^ k))), some (.int (nI k)), some (.int (nI q)), y6, y7, y8, y9] [] (mu h w') P := by
  have h6 : 6 ^ (k + 1) ≤ 1296 := pow6_le (by omega)
  have hp6 : 6 ^ (k + 1) = 6 ^ k * 6 := Nat.pow_succ _ _
  have hlv : ∀ j y, lev M (dryD M N m g) n j y < 100 := lev_lt (fun y => Nat.lt_of_le_of_lt (cnt_le N) (by omega))
  have hlev : (fun b => gnF M k (lev M (dryD M N m g) n (n - (k + 1))) b M) = (lev M (dryD M N m g) n (n - k)) := by
    funext b
    rw [show n - k = (n - (k + 1)) + 1 by omega]
    show _ = gnF M (n - 1 - (n - (k + 1))) _ b M
    rw [show n - 1 - (n - (k + 1)) = k by omega]
  intro c
  induction c with
  | zero =>
    intro q hq w' y6 y7 y8 y9 hf h1 h2
    have hq' : q = 6 ^ k := by omega
    subst hq'
    refine g_iload d_X7_byTurns_154 rfl ?_
    refine g_iload_n d_X7_byTurns_156 rfl ?_
    refine g_icmp_ge d_X7_byTurns_157 (fun c157 => ?_) (fun c157 => absurd (nI_le (a := 6 ^ k) (b := 6 ^ k) (Nat.le_refl _) (by omega)) c157)
    exact kx w' y6 y7 y8 y9 hf h1
  | succ c ih =>
    intro q hq w' y6 y7 y8 y9 hf h1 h2
    refine g_iload d_X7_byTurns_154 rfl ?_
    refine g_iload_n d_X7_byTurns_156 rfl ?_
    refine g_icmp_ge d_X7_byTurns_157 (fun c157 => absurd c157 (nI_ge (a := q) (b := 6 ^ k) (by omega) (by omega))) (fun c157 => ?_)
    refine g_iconst d_X7_byTurns_160 ik_m1 ?_
    refine w_istore (L' := [_, _, _, _, _, _, _, _, _, _]) d_X7_byTurns_161 rfl rfl rfl ?_
    refine g_iconst d_X7_byTurns_163 ik_0 ?_
    refine w_istore (L' := [_, _, _, _, _, _, _, _, _, _]) d_X7_byTurns_164 rfl rfl rfl ?_
    refine lp_bt7f (q := q) (k := k) (by omega) (by omega) (fun y8 y9 => ?_) 6 0 rfl _ _
    rw [it_ok hM5 (hlv (n - (k + 1))) (fun f hf6 => h2 (6 * q + f) (by omega) (by omega)), hlev]
    refine g_aload_n d_X7_byTurns_249 rfl ?_
    refine h_getR d_X7_byTurns_250 fl_7_56 sp_M rfl ?_
    refine g_iload d_X7_byTurns_253 rfl ?_
    refine g_iload d_X7_byTurns_255 rfl ?_
    refine mm_astE (k := q) d_X7_byTurns_257 (j := 16) sp_m_value6 rfl (by decide) rfl (by omega) (by decide) ?_
    refine w_iinc (L' := [_, _, _, _, _, _, _, _, _, _]) d_X7_byTurns_258 ik_1 rfl rfl rfl rfl ?_
    refine g_goto d_X7_byTurns_261 ?_
    rw [nI_1]
    refine ih (q + 1) (by omega) _ _ _ _ _ (hf.set (by omega)) (fun y hy => ?_) (fun y hy hy2 => ?_)
    · by_cases e : y = q
      · subst e; exact hs_at
      · rw [hs_b e]; exact h1 y (by omega)
    · rw [hs_b (by omega)]; exact h2 y (by omega) hy2
theorem lp_bt7l {h w g : Hv} {M N n m a : Nat} (hM5 : M ≤ 5) (hN6 : N ≤ 6) (hn : n ≤ 4) {P : Option Value → Hv → Prop} (kx : ∀ (w' : Hv) (v3 v4 : Int32) (y5 : Option Value) (y6 y7 y8 y9 : Option Value), FrS w w' → w' 16 0 = nI (lev M (dryD M N m g) n n a) → GdH M_X7_byTurns 4 270 [some (.ref 360), some (.int (nI n)), some (.int (nI m)), some (.int v3), some (.int v4), y5, y6, y7, y8, y9] [] (mu h w') P) : ∀ (r : Nat), r ≤ n → ∀ (w' : Hv) (y5 : Option Value) (y6 y7 y8 y9 : Option Value), FrS w w' → (∀ y, y < 6 ^ r → w' 16 y = vO (lev M (dryD M N m g) n (n - r)) (obF M a r y)) → GdH M_X7_byTurns 4 141 [some (.ref 360), some (.int (nI n)), some (.int (nI m)), some (.int (nI (6 ^ r))), some (.int (nI r - 1)), y5, y6, y7, y8, y9] [] (mu h w') P := by
  intro r
  induction r with
  | zero =>
    intro hr w' y5 y6 y7 y8 y9 hf h1
    refine g_iload d_X7_byTurns_141 rfl ?_
    refine g_if_lt d_X7_byTurns_143 (fun c143 => ?_) (fun c143 => absurd (show nI 0 - 1 < 0 by decide) c143)
    exact kx w' _ _ _ _ _ _ _ hf (h1 0 (by decide))
  | succ r ih =>
    intro hr w' y5 y6 y7 y8 y9 hf h1
    have h6 : 6 ^ (r + 1) ≤ 1296 := pow6_le (by omega)
    rw [nI_pred]
    refine g_iload d_X7_byTurns_141 rfl ?_
    refine g_if_lt d_X7_byTurns_143 (fun c143 => absurd c143 (nI_pos (by omega))) (fun c143 => ?_)
    refine g_iload_n d_X7_byTurns_146 rfl ?_
    refine g_bipush d_X7_byTurns_147 bk_6 ?_
    refine g_idiv d_X7_byTurns_149 (by decide) ?_
    rw [show nI (6 ^ (r + 1)) / 6 = nI (6 ^ r) by rw [show nI (6 ^ (r + 1)) / 6 = nI (6 ^ (r + 1) / 6) from pk_div (d := 6) (by omega) (by decide) (by decide), Nat.pow_succ, Nat.mul_div_cancel _ (by decide)]]
    refine w_istore_n (L' := [_, _, _, _, _, _, _, _, _, _]) d_X7_byTurns_150 rfl rfl rfl ?_
    refine g_iconst d_X7_byTurns_151 ik_0 ?_
    refine w_istore (L' := [_, _, _, _, _, _, _, _, _, _]) d_X7_byTurns_152 rfl rfl rfl ?_
    refine lp_bt7r (w := w) (k := r) hM5 hN6 hn (by omega) (fun w2 y6 y7 y8 y9 f2 g1 => ?_) (6 ^ r) 0 (by omega) w' _ _ _ _ hf (fun y hy => absurd hy (by omega)) (fun y _ hy2 => h1 y hy2)
    refine w_iinc (L' := [_, _, _, _, _, _, _, _, _, _]) d_X7_byTurns_264 ik_m1 rfl rfl rfl rfl ?_
    refine g_goto d_X7_byTurns_267 ?_
    rw [show nI r + (-1) = nI r - 1 from (Int32.sub_eq_add_neg _ _).symm]
    exact ih (by omega) w2 _ _ _ _ _ f2 g1
theorem op_byTurns {h w : Hv} (hR : RelP h w) {x y : Int32} : OPI M_X6_byTurns M_X7_byTurns 6 4 [.int x, .int y] (mu h w) := by
  obtain ⟨M, N, hM5, hN6, gM, wM, gN, wN, hZ⟩ := hR.mn
  have eM : (nI M).toInt = M := nI_toInt (by omega)
  have eN : (nI N).toInt = N := nI_toInt (by omega)
  have eM1 := nI_predI (t := M) (by omega)
  have eN1 := nI_predI (t := N) (by omega)
  refine MtH.of [some (.ref 0), some (.int x), some (.int y), none] pl_X6 rfl rfl ?_
  refine g_aload_n d_X6_byTurns_0 rfl ?_
  refine h_getR d_X6_byTurns_1 fl_6_26 sp_L rfl ?_
  refine h_V0i d_X6_byTurns_4 cl_6_154 p_isNone (sp_hall hall_15) (by decide) rfl (Nat.le_of_ble_eq_true rfl) (by decide) ?_
  refine g_if_eq d_X6_byTurns_7 (fun c7 => ?_) (fun c7 => ?_)
  · have hM0 : ¬ nI M = 0 := fun z => b2i_eq0.mp c7 (gM.trans z)
    obtain ⟨i0, c0, hi0, hi1, hS, hA, hO⟩ := (hZ.resolve_left (fun z => hM0 (by rw [z.1]; rfl))).2.2
    have hI := hS.1
    refine g_iload_n d_X6_byTurns_13 rfl ?_
    refine g_if_lt d_X6_byTurns_14 (fun c14 => ?_) (fun c14 => ?_)
    · refine g_ldc d_X6_byTurns_33 kc_X6_66 ?_
      refine h_iret d_X6_byTurns_35 rfl ?_
      refine ⟨_, rfl, ?_⟩
      refine MtH.of [some (.ref 360), some (.int x), some (.int y), none, none, none, none, none, none, none] pl_X7 rfl rfl ?_
      refine g_aload_n d_X7_byTurns_0 rfl ?_
      refine g_iconst d_X7_byTurns_1 ik_0 ?_
      refine mm_putI d_X7_byTurns_2 fl_7_62 sp_M rfl ?_
      refine g_aload_n d_X7_byTurns_5 rfl ?_
      refine h_V0i d_X7_byTurns_6 cl_7_195 (m7_isNothing ((hs_j (by decide)).trans wM)) sp_M (by decide) rfl (Nat.le_of_ble_eq_true rfl) (by decide) ?_
      refine g_if_eq d_X7_byTurns_9 (fun c9 => ?_) (fun c9 => ?_)
      · refine g_iload_n d_X7_byTurns_15 rfl ?_
        refine g_iconst d_X7_byTurns_16 ik_0 ?_
        refine g_iconst d_X7_byTurns_17 ik_4 ?_
        refine h_S3i d_X7_byTurns_18 cl_7_70 m7_in (Nat.le_of_ble_eq_true rfl) (by decide) ?_
        refine g_if_eq d_X7_byTurns_21 (fun c21 => ?_) (fun c21 => ?_)
        · refine g_ldc d_X7_byTurns_34 kc_X7_78 ?_
          refine h_iret d_X7_byTurns_36 rfl ?_
          exact ⟨rfl, _, _, rfl, hR.fr fr_thrown⟩
        · refine g_iload_n d_X7_byTurns_24 rfl ?_
          refine g_iconst d_X7_byTurns_25 ik_1 ?_
          refine g_bipush d_X7_byTurns_26 bk_20 ?_
          refine h_S3i d_X7_byTurns_28 cl_7_70 m7_in (Nat.le_of_ble_eq_true rfl) (by decide) ?_
          refine g_if_ne d_X7_byTurns_31 (fun c31 => ?_) (fun c31 => ?_)
          · exfalso
            simp only [b2i_eq0, b2i_ne0, Int32.lt_iff_toInt_lt, Int32.le_iff_toInt_le, t_0, t_1, t_2, t_3, t_4, t_5, t_6, t_7, t_8, t_9, t_10, t_11, t_12, t_20, t_24, t_40, t_50, t_60, t_99, t_110, t_255, t_999, t_999999, t_m1, gM, gN, eM, eN, eM1, eN1] at *
            omega
          · refine g_ldc d_X7_byTurns_34 kc_X7_78 ?_
            refine h_iret d_X7_byTurns_36 rfl ?_
            exact ⟨rfl, _, _, rfl, hR.fr fr_thrown⟩
      · exact absurd (b2i_ne0.mp c9) hM0
    · refine g_iload_n d_X6_byTurns_17 rfl ?_
      refine g_iconst d_X6_byTurns_18 ik_4 ?_
      refine g_icmp_gt d_X6_byTurns_19 (fun c19 => ?_) (fun c19 => ?_)
      · refine g_ldc d_X6_byTurns_33 kc_X6_66 ?_
        refine h_iret d_X6_byTurns_35 rfl ?_
        refine ⟨_, rfl, ?_⟩
        refine MtH.of [some (.ref 360), some (.int x), some (.int y), none, none, none, none, none, none, none] pl_X7 rfl rfl ?_
        refine g_aload_n d_X7_byTurns_0 rfl ?_
        refine g_iconst d_X7_byTurns_1 ik_0 ?_
        refine mm_putI d_X7_byTurns_2 fl_7_62 sp_M rfl ?_
        refine g_aload_n d_X7_byTurns_5 rfl ?_
        refine h_V0i d_X7_byTurns_6 cl_7_195 (m7_isNothing ((hs_j (by decide)).trans wM)) sp_M (by decide) rfl (Nat.le_of_ble_eq_true rfl) (by decide) ?_
        refine g_if_eq d_X7_byTurns_9 (fun c9 => ?_) (fun c9 => ?_)
        · refine g_iload_n d_X7_byTurns_15 rfl ?_
          refine g_iconst d_X7_byTurns_16 ik_0 ?_
          refine g_iconst d_X7_byTurns_17 ik_4 ?_
          refine h_S3i d_X7_byTurns_18 cl_7_70 m7_in (Nat.le_of_ble_eq_true rfl) (by decide) ?_
          refine g_if_eq d_X7_byTurns_21 (fun c21 => ?_) (fun c21 => ?_)
          · refine g_ldc d_X7_byTurns_34 kc_X7_78 ?_
            refine h_iret d_X7_byTurns_36 rfl ?_
            exact ⟨rfl, _, _, rfl, hR.fr fr_thrown⟩
          · refine g_iload_n d_X7_byTurns_24 rfl ?_
            refine g_iconst d_X7_byTurns_25 ik_1 ?_
            refine g_bipush d_X7_byTurns_26 bk_20 ?_
            refine h_S3i d_X7_byTurns_28 cl_7_70 m7_in (Nat.le_of_ble_eq_true rfl) (by decide) ?_
            refine g_if_ne d_X7_byTurns_31 (fun c31 => ?_) (fun c31 => ?_)
            · exfalso
              simp only [b2i_eq0, b2i_ne0, Int32.lt_iff_toInt_lt, Int32.le_iff_toInt_le, t_0, t_1, t_2, t_3, t_4, t_5, t_6, t_7, t_8, t_9, t_10, t_11, t_12, t_20, t_24, t_40, t_50, t_60, t_99, t_110, t_255, t_999, t_999999, t_m1, gM, gN, eM, eN, eM1, eN1] at *
              omega
            · refine g_ldc d_X7_byTurns_34 kc_X7_78 ?_
              refine h_iret d_X7_byTurns_36 rfl ?_
              exact ⟨rfl, _, _, rfl, hR.fr fr_thrown⟩
        · exact absurd (b2i_ne0.mp c9) hM0
      · refine g_iload_n d_X6_byTurns_22 rfl ?_
        refine g_iconst d_X6_byTurns_23 ik_1 ?_
        refine g_icmp_lt d_X6_byTurns_24 (fun c24 => ?_) (fun c24 => ?_)
        · refine g_ldc d_X6_byTurns_33 kc_X6_66 ?_
          refine h_iret d_X6_byTurns_35 rfl ?_
          refine ⟨_, rfl, ?_⟩
          refine MtH.of [some (.ref 360), some (.int x), some (.int y), none, none, none, none, none, none, none] pl_X7 rfl rfl ?_
          refine g_aload_n d_X7_byTurns_0 rfl ?_
          refine g_iconst d_X7_byTurns_1 ik_0 ?_
          refine mm_putI d_X7_byTurns_2 fl_7_62 sp_M rfl ?_
          refine g_aload_n d_X7_byTurns_5 rfl ?_
          refine h_V0i d_X7_byTurns_6 cl_7_195 (m7_isNothing ((hs_j (by decide)).trans wM)) sp_M (by decide) rfl (Nat.le_of_ble_eq_true rfl) (by decide) ?_
          refine g_if_eq d_X7_byTurns_9 (fun c9 => ?_) (fun c9 => ?_)
          · refine g_iload_n d_X7_byTurns_15 rfl ?_
            refine g_iconst d_X7_byTurns_16 ik_0 ?_
            refine g_iconst d_X7_byTurns_17 ik_4 ?_
            refine h_S3i d_X7_byTurns_18 cl_7_70 m7_in (Nat.le_of_ble_eq_true rfl) (by decide) ?_
            refine g_if_eq d_X7_byTurns_21 (fun c21 => ?_) (fun c21 => ?_)
            · refine g_ldc d_X7_byTurns_34 kc_X7_78 ?_
              refine h_iret d_X7_byTurns_36 rfl ?_
              exact ⟨rfl, _, _, rfl, hR.fr fr_thrown⟩
            · refine g_iload_n d_X7_byTurns_24 rfl ?_
              refine g_iconst d_X7_byTurns_25 ik_1 ?_
              refine g_bipush d_X7_byTurns_26 bk_20 ?_
              refine h_S3i d_X7_byTurns_28 cl_7_70 m7_in (Nat.le_of_ble_eq_true rfl) (by decide) ?_
              refine g_if_ne d_X7_byTurns_31 (fun c31 => ?_) (fun c31 => ?_)
              · exfalso
                simp only [b2i_eq0, b2i_ne0, Int32.lt_iff_toInt_lt, Int32.le_iff_toInt_le, t_0, t_1, t_2, t_3, t_4, t_5, t_6, t_7, t_8, t_9, t_10, t_11, t_12, t_20, t_24, t_40, t_50, t_60, t_99, t_110, t_255, t_999, t_999999, t_m1, gM, gN, eM, eN, eM1, eN1] at *
                omega
              · refine g_ldc d_X7_byTurns_34 kc_X7_78 ?_
                refine h_iret d_X7_byTurns_36 rfl ?_
                exact ⟨rfl, _, _, rfl, hR.fr fr_thrown⟩
          · exact absurd (b2i_ne0.mp c9) hM0
        · refine g_iload_n d_X6_byTurns_27 rfl ?_
          refine g_bipush d_X6_byTurns_28 bk_20 ?_
          refine g_icmp_le d_X6_byTurns_30 (fun c30 => ?_) (fun c30 => ?_)
          · obtain ⟨n, hn, rfl⟩ := rngI (x := x) (B := 5) (by simp only [b2i_eq0, b2i_ne0, Int32.lt_iff_toInt_lt, Int32.le_iff_toInt_le, t_0, t_1, t_2, t_3, t_4, t_5, t_6, t_7, t_8, t_9, t_10, t_11, t_12, t_20, t_24, t_40, t_50, t_60, t_99, t_110, t_255, t_999, t_999999, t_m1, gM, gN, eM, eN, eM1, eN1] at *; omega) (by simp only [b2i_eq0, b2i_ne0, Int32.lt_iff_toInt_lt, Int32.le_iff_toInt_le, t_0, t_1, t_2, t_3, t_4, t_5, t_6, t_7, t_8, t_9, t_10, t_11, t_12, t_20, t_24, t_40, t_50, t_60, t_99, t_110, t_255, t_999, t_999999, t_m1, gM, gN, eM, eN, eM1, eN1] at *; omega)
            have en : (nI n).toInt = n := nI_toInt (by omega)
            obtain ⟨m, hm, rfl⟩ := rngI (x := y) (B := 21) (by simp only [b2i_eq0, b2i_ne0, Int32.lt_iff_toInt_lt, Int32.le_iff_toInt_le, t_0, t_1, t_2, t_3, t_4, t_5, t_6, t_7, t_8, t_9, t_10, t_11, t_12, t_20, t_24, t_40, t_50, t_60, t_99, t_110, t_255, t_999, t_999999, t_m1, en, gM, gN, eM, eN, eM1, eN1] at *; omega) (by simp only [b2i_eq0, b2i_ne0, Int32.lt_iff_toInt_lt, Int32.le_iff_toInt_le, t_0, t_1, t_2, t_3, t_4, t_5, t_6, t_7, t_8, t_9, t_10, t_11, t_12, t_20, t_24, t_40, t_50, t_60, t_99, t_110, t_255, t_999, t_999999, t_m1, en, gM, gN, eM, eN, eM1, eN1] at *; omega)
            have em : (nI m).toInt = m := nI_toInt (by omega)
            obtain ⟨a, ha, eo⟩ := hI.opn
            have h32 := pow5 hM5
            refine g_iconst d_X6_byTurns_36 ik_0 ?_
            refine w_istore_n (L' := [_, _, _, _]) d_X6_byTurns_37 rfl rfl rfl ?_
            refine lp_bt6a hI (by omega) (by omega) (fun h1' f1 g1 => ?_) (2 ^ M) 0 (by omega) h FrC.rf (fun y hy => absurd hy (by omega))
            refine g_iload_n d_X6_byTurns_73 rfl ?_
            refine g_iconst d_X6_byTurns_74 ik_1 ?_
            refine g_isub d_X6_byTurns_75 ?_
            refine w_istore_n (L' := [_, _, _, _]) d_X6_byTurns_76 rfl rfl rfl ?_
            refine lp_bt6b hI (by omega) (by omega) (fun h' y3 hfc g2 => ?_) n (Nat.le_refl n) h1' f1 (by rw [Nat.sub_self]; exact g1)
            refine g_aload_n d_X6_byTurns_104 rfl ?_
            refine h_getR d_X6_byTurns_105 fl_6_58 sp_L rfl ?_
            refine g_aload_n d_X6_byTurns_108 rfl ?_
            refine h_getR d_X6_byTurns_109 fl_6_26 sp_L rfl ?_
            refine h_getV (v := nI a) d_X6_byTurns_112 fl_6_228 (sp_hall hall_15) rfl ((mu_low (by decide)).trans (hfc.at.trans ((hv_at (by decide)).symm.trans eo))) ?_
            refine h_aldV (k := a) (v := nI (lev M (dryD M N m (hv h 15)) n n a)) d_X6_byTurns_115 sp_dry rfl (by omega) (by decide) ((mu_low (by decide)).trans (g2 a ha)) ?_
            refine h_iret d_X6_byTurns_116 rfl ?_
            refine ⟨_, rfl, ?_⟩
            refine MtH.of [some (.ref 360), some (.int (nI n)), some (.int (nI m)), none, none, none, none, none, none, none] pl_X7 rfl rfl ?_
            refine g_aload_n d_X7_byTurns_0 rfl ?_
            refine g_iconst d_X7_byTurns_1 ik_0 ?_
            refine mm_putI d_X7_byTurns_2 fl_7_62 sp_M rfl ?_
            refine g_aload_n d_X7_byTurns_5 rfl ?_
            refine h_V0i d_X7_byTurns_6 cl_7_195 (m7_isNothing ((hs_j (by decide)).trans wM)) sp_M (by decide) rfl (Nat.le_of_ble_eq_true rfl) (by decide) ?_
            refine g_if_eq d_X7_byTurns_9 (fun c9 => ?_) (fun c9 => ?_)
            · refine g_iload_n d_X7_byTurns_15 rfl ?_
              refine g_iconst d_X7_byTurns_16 ik_0 ?_
              refine g_iconst d_X7_byTurns_17 ik_4 ?_
              refine h_S3i d_X7_byTurns_18 cl_7_70 m7_in (Nat.le_of_ble_eq_true rfl) (by decide) ?_
              refine g_if_eq d_X7_byTurns_21 (fun c21 => ?_) (fun c21 => ?_)
              · exfalso
                simp only [b2i_eq0, b2i_ne0, Int32.lt_iff_toInt_lt, Int32.le_iff_toInt_le, t_0, t_1, t_2, t_3, t_4, t_5, t_6, t_7, t_8, t_9, t_10, t_11, t_12, t_20, t_24, t_40, t_50, t_60, t_99, t_110, t_255, t_999, t_999999, t_m1, en, em, gM, gN, eM, eN, eM1, eN1] at *
                omega
              · refine g_iload_n d_X7_byTurns_24 rfl ?_
                refine g_iconst d_X7_byTurns_25 ik_1 ?_
                refine g_bipush d_X7_byTurns_26 bk_20 ?_
                refine h_S3i d_X7_byTurns_28 cl_7_70 m7_in (Nat.le_of_ble_eq_true rfl) (by decide) ?_
                refine g_if_ne d_X7_byTurns_31 (fun c31 => ?_) (fun c31 => ?_)
                · refine g_iconst d_X7_byTurns_37 ik_1 ?_
                  refine w_istore_n (L' := [_, _, _, _, _, _, _, _, _, _]) d_X7_byTurns_38 rfl rfl rfl ?_
                  refine g_iconst d_X7_byTurns_39 ik_0 ?_
                  refine w_istore (L' := [_, _, _, _, _, _, _, _, _, _]) d_X7_byTurns_40 rfl rfl rfl ?_
                  refine lp_bt7p (by omega) ?_ n 0 (by omega)
                  refine g_iconst d_X7_byTurns_59 ik_0 ?_
                  refine w_istore (L' := [_, _, _, _, _, _, _, _, _, _]) d_X7_byTurns_60 rfl rfl rfl ?_
                  refine lp_bt7a (w := hset w 0 0 0) (g := hv h 15) (a := a) hI ((hs_j (by decide)).trans wN) ((hs_j (by decide)).trans wM) (hS.2.1.th hM5 hN6) hS.2.2.1.1 eo ha (by omega) (by omega) (fun w2 y5 y6 y7 y8 y9 f2 g1 => ?_) (6 ^ n) 0 (by omega) _ _ _ _ _ _ FrS.rf (fun y hy => absurd hy (by omega))
                  refine g_iload_n d_X7_byTurns_136 rfl ?_
                  refine g_iconst d_X7_byTurns_137 ik_1 ?_
                  refine g_isub d_X7_byTurns_138 ?_
                  refine w_istore (L' := [_, _, _, _, _, _, _, _, _, _]) d_X7_byTurns_139 rfl rfl rfl ?_
                  refine lp_bt7l (w := hset w 0 0 0) (a := a) (g := hv h 15) hM5 hN6 (by omega) (fun w3 v3 v4 y5 y6 y7 y8 y9 hf3 h16 => ?_) n (Nat.le_refl n) w2 _ _ _ _ _ f2 (by rw [Nat.sub_self]; exact g1)
                  refine g_aload_n d_X7_byTurns_270 rfl ?_
                  refine h_getR d_X7_byTurns_271 fl_7_56 sp_M rfl ?_
                  refine g_iconst d_X7_byTurns_274 ik_0 ?_
                  refine mm_aldV (k := 0) (v := nI (lev M (dryD M N m (hv h 15)) n n a)) d_X7_byTurns_275 (j := 16) sp_m_value6 rfl (by decide) rfl (by omega) (by decide) (h16) ?_
                  refine h_iret d_X7_byTurns_276 rfl ?_
                  exact ⟨rfl, _, _, rfl, (hR.fc hfc).fr (fr_thrown.tr hf3.fr)⟩
                · exfalso
                  simp only [b2i_eq0, b2i_ne0, Int32.lt_iff_toInt_lt, Int32.le_iff_toInt_le, t_0, t_1, t_2, t_3, t_4, t_5, t_6, t_7, t_8, t_9, t_10, t_11, t_12, t_20, t_24, t_40, t_50, t_60, t_99, t_110, t_255, t_999, t_999999, t_m1, en, em, gM, gN, eM, eN, eM1, eN1] at *
                  omega
            · exact absurd (b2i_ne0.mp c9) hM0
          · refine g_ldc d_X6_byTurns_33 kc_X6_66 ?_
            refine h_iret d_X6_byTurns_35 rfl ?_
            refine ⟨_, rfl, ?_⟩
            refine MtH.of [some (.ref 360), some (.int x), some (.int y), none, none, none, none, none, none, none] pl_X7 rfl rfl ?_
            refine g_aload_n d_X7_byTurns_0 rfl ?_
            refine g_iconst d_X7_byTurns_1 ik_0 ?_
            refine mm_putI d_X7_byTurns_2 fl_7_62 sp_M rfl ?_
            refine g_aload_n d_X7_byTurns_5 rfl ?_
            refine h_V0i d_X7_byTurns_6 cl_7_195 (m7_isNothing ((hs_j (by decide)).trans wM)) sp_M (by decide) rfl (Nat.le_of_ble_eq_true rfl) (by decide) ?_
            refine g_if_eq d_X7_byTurns_9 (fun c9 => ?_) (fun c9 => ?_)
            · refine g_iload_n d_X7_byTurns_15 rfl ?_
              refine g_iconst d_X7_byTurns_16 ik_0 ?_
              refine g_iconst d_X7_byTurns_17 ik_4 ?_
              refine h_S3i d_X7_byTurns_18 cl_7_70 m7_in (Nat.le_of_ble_eq_true rfl) (by decide) ?_
              refine g_if_eq d_X7_byTurns_21 (fun c21 => ?_) (fun c21 => ?_)
              · refine g_ldc d_X7_byTurns_34 kc_X7_78 ?_
                refine h_iret d_X7_byTurns_36 rfl ?_
                exact ⟨rfl, _, _, rfl, hR.fr fr_thrown⟩
              · refine g_iload_n d_X7_byTurns_24 rfl ?_
                refine g_iconst d_X7_byTurns_25 ik_1 ?_
                refine g_bipush d_X7_byTurns_26 bk_20 ?_
                refine h_S3i d_X7_byTurns_28 cl_7_70 m7_in (Nat.le_of_ble_eq_true rfl) (by decide) ?_
                refine g_if_ne d_X7_byTurns_31 (fun c31 => ?_) (fun c31 => ?_)
                · exfalso
                  simp only [b2i_eq0, b2i_ne0, Int32.lt_iff_toInt_lt, Int32.le_iff_toInt_le, t_0, t_1, t_2, t_3, t_4, t_5, t_6, t_7, t_8, t_9, t_10, t_11, t_12, t_20, t_24, t_40, t_50, t_60, t_99, t_110, t_255, t_999, t_999999, t_m1, gM, gN, eM, eN, eM1, eN1] at *
                  omega
                · refine g_ldc d_X7_byTurns_34 kc_X7_78 ?_
                  refine h_iret d_X7_byTurns_36 rfl ?_
                  exact ⟨rfl, _, _, rfl, hR.fr fr_thrown⟩
            · exact absurd (b2i_ne0.mp c9) hM0
  · refine g_ldc d_X6_byTurns_10 kc_X6_141 ?_
    refine h_iret d_X6_byTurns_12 rfl ?_
    refine ⟨_, rfl, ?_⟩
    refine MtH.of [some (.ref 360), some (.int x), some (.int y), none, none, none, none, none, none, none] pl_X7 rfl rfl ?_
    refine g_aload_n d_X7_byTurns_0 rfl ?_
    refine g_iconst d_X7_byTurns_1 ik_0 ?_
    refine mm_putI d_X7_byTurns_2 fl_7_62 sp_M rfl ?_
    refine g_aload_n d_X7_byTurns_5 rfl ?_
    refine h_V0i d_X7_byTurns_6 cl_7_195 (m7_isNothing ((hs_j (by decide)).trans wM)) sp_M (by decide) rfl (Nat.le_of_ble_eq_true rfl) (by decide) ?_
    refine g_if_eq d_X7_byTurns_9 (fun c9 => ?_) (fun c9 => ?_)
    · exact absurd (gM.symm.trans (b2i_ne0.mp c7)) (b2i_eq0.mp c9)
    · refine g_ldc d_X7_byTurns_12 kc_X7_194 ?_
      refine h_iret d_X7_byTurns_14 rfl ?_
      exact ⟨rfl, _, _, rfl, hR.fr fr_thrown⟩

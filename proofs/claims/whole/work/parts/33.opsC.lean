/-! OPS: copy -/
abbrev PL (i n : Int32) (m : Nat) : Prop := 0 ≤ i.toInt ∧ 0 ≤ n.toInt ∧ i.toInt + n.toInt ≤ m
theorem subI {m : Nat} {i : Int32} (hm : m ≤ 40) (h0 : 0 ≤ i.toInt) (h1 : i.toInt ≤ m) : (nI m - i).toInt = m - i.toInt := by
  obtain ⟨k, hk, rfl⟩ := rngI (x := i) (B := m + 1) h0 (by omega)
  rw [pk_sub (by omega), nI_toInt (by omega), nI_toInt (by omega)]
  omega
theorem pl_cls {i n : Int32} {m : Nat} (hm : m ≤ 40) : (¬ n < 0 ∧ ¬ nI m < n ∧ ¬ i < 0 ∧ ¬ nI m - n < i) ↔ PL i n m := by
  have em : (nI m).toInt = m := nI_toInt (by omega)
  simp only [Int32.lt_iff_toInt_lt, em, t_0]
  constructor
  · intro h
    have e := subI (m := m) (i := n) hm (by omega) (by omega)
    rw [e] at h
    exact ⟨by omega, by omega, by omega⟩
  · intro h
    obtain ⟨h1, h2, h3⟩ := h
    have e := subI (m := m) (i := n) hm (by omega) (by omega)
    rw [e]
    exact ⟨by omega, by omega, by omega, by omega⟩
theorem m7_isPart {h w : Hv} {x : Int32} {r m : Nat} (ex : x = nI r) (hr : r < 8) (hm3 : w 3 r = nI m) (hm : m ≤ 40) {i n : Int32} : MtF M_X7_isPart 1 [.ref 360, .int x, .int i, .int n] (mu h w) (some (.int (b2i (PL i n m)))) (mu h w) := by
  subst ex
  have em : (nI m).toInt = m := nI_toInt (by omega)
  refine MtF.of [some (.ref 360), some (.int (nI r)), some (.int i), some (.int n)] pl_X7 rfl rfl ?_
  refine g_iload_n d_X7_isPart_0 rfl ?_
  refine g_if_lt d_X7_isPart_1 (fun c1 => ?_) (fun c1 => ?_)
  · refine g_iconst d_X7_isPart_34 ik_0 ?_
    refine h_zret d_X7_isPart_35 rfl rfl ?_
    refine pF (congrArg (fun z => some (Value.int z)) ?_) rfl
    symm
    first
      | exact b2i_f (fun z => by have := z.2.1; simp only [Int32.lt_iff_toInt_lt, t_0] at c1; omega)
      | exact b2i_f (fun z => by obtain ⟨z1, z2, z3⟩ := z; simp only [b2i_eq0, Int32.lt_iff_toInt_lt, t_0, em] at c15; omega)
      | exact b2i_f (fun z => by obtain ⟨z1, z2, z3⟩ := z; have e := subI (m := m) (i := i) hm (by omega) (by omega); simp only [Int32.lt_iff_toInt_lt, e] at c27; omega)
      | exact b2i_t (by simp only [b2i_ne0, Int32.lt_iff_toInt_lt, t_0, em] at c1 c15; have e := subI (m := m) (i := i) hm (by omega) (by omega); simp only [Int32.lt_iff_toInt_lt, e] at c27; exact ⟨by omega, by omega, by omega⟩)
  · refine g_iload_n d_X7_isPart_4 rfl ?_
    refine g_iconst d_X7_isPart_5 ik_0 ?_
    refine g_aload_n d_X7_isPart_6 rfl ?_
    refine h_getR d_X7_isPart_7 fl_7_16 sp_M rfl ?_
    refine g_iload_n d_X7_isPart_10 rfl ?_
    refine mm_aldV (k := r) (v := nI m) d_X7_isPart_11 (j := 3) sp_m_rowSize rfl (by decide) rfl (by omega) (by decide) (hm3) ?_
    refine h_S3i d_X7_isPart_12 cl_7_70 m7_in (Nat.le_of_ble_eq_true rfl) (by decide) ?_
    refine g_if_eq d_X7_isPart_15 (fun c15 => ?_) (fun c15 => ?_)
    · refine g_iconst d_X7_isPart_34 ik_0 ?_
      refine h_zret d_X7_isPart_35 rfl rfl ?_
      refine pF (congrArg (fun z => some (Value.int z)) ?_) rfl
      symm
      first
        | exact b2i_f (fun z => by have := z.2.1; simp only [Int32.lt_iff_toInt_lt, t_0] at c1; omega)
        | exact b2i_f (fun z => by obtain ⟨z1, z2, z3⟩ := z; simp only [b2i_eq0, Int32.lt_iff_toInt_lt, t_0, em] at c15; omega)
        | exact b2i_f (fun z => by obtain ⟨z1, z2, z3⟩ := z; have e := subI (m := m) (i := i) hm (by omega) (by omega); simp only [Int32.lt_iff_toInt_lt, e] at c27; omega)
        | exact b2i_t (by simp only [b2i_ne0, Int32.lt_iff_toInt_lt, t_0, em] at c1 c15; have e := subI (m := m) (i := i) hm (by omega) (by omega); simp only [Int32.lt_iff_toInt_lt, e] at c27; exact ⟨by omega, by omega, by omega⟩)
    · refine g_iload_n d_X7_isPart_18 rfl ?_
      refine g_aload_n d_X7_isPart_19 rfl ?_
      refine h_getR d_X7_isPart_20 fl_7_16 sp_M rfl ?_
      refine g_iload_n d_X7_isPart_23 rfl ?_
      refine mm_aldV (k := r) (v := nI m) d_X7_isPart_24 (j := 3) sp_m_rowSize rfl (by decide) rfl (by omega) (by decide) (hm3) ?_
      refine g_iload_n d_X7_isPart_25 rfl ?_
      refine g_isub d_X7_isPart_26 ?_
      refine g_icmp_gt d_X7_isPart_27 (fun c27 => ?_) (fun c27 => ?_)
      · refine g_iconst d_X7_isPart_34 ik_0 ?_
        refine h_zret d_X7_isPart_35 rfl rfl ?_
        refine pF (congrArg (fun z => some (Value.int z)) ?_) rfl
        symm
        first
          | exact b2i_f (fun z => by have := z.2.1; simp only [Int32.lt_iff_toInt_lt, t_0] at c1; omega)
          | exact b2i_f (fun z => by obtain ⟨z1, z2, z3⟩ := z; simp only [b2i_eq0, Int32.lt_iff_toInt_lt, t_0, em] at c15; omega)
          | exact b2i_f (fun z => by obtain ⟨z1, z2, z3⟩ := z; have e := subI (m := m) (i := i) hm (by omega) (by omega); simp only [Int32.lt_iff_toInt_lt, e] at c27; omega)
          | exact b2i_t (by simp only [b2i_ne0, Int32.lt_iff_toInt_lt, t_0, em] at c1 c15; have e := subI (m := m) (i := i) hm (by omega) (by omega); simp only [Int32.lt_iff_toInt_lt, e] at c27; exact ⟨by omega, by omega, by omega⟩)
      · refine g_iconst d_X7_isPart_30 ik_1 ?_
        refine g_goto d_X7_isPart_31 ?_
        refine h_zret d_X7_isPart_35 rfl rfl ?_
        refine pF (congrArg (fun z => some (Value.int z)) ?_) rfl
        symm
        first
          | exact b2i_f (fun z => by have := z.2.1; simp only [Int32.lt_iff_toInt_lt, t_0] at c1; omega)
          | exact b2i_f (fun z => by obtain ⟨z1, z2, z3⟩ := z; simp only [b2i_eq0, Int32.lt_iff_toInt_lt, t_0, em] at c15; omega)
          | exact b2i_f (fun z => by obtain ⟨z1, z2, z3⟩ := z; have e := subI (m := m) (i := i) hm (by omega) (by omega); simp only [Int32.lt_iff_toInt_lt, e] at c27; omega)
          | exact b2i_t (by simp only [b2i_ne0, Int32.lt_iff_toInt_lt, t_0, em] at c1 c15; have e := subI (m := m) (i := i) hm (by omega) (by omega); simp only [Int32.lt_iff_toInt_lt, e] at c27; exact ⟨by omega, by omega, by omega⟩)
theorem m_places {h : Hv} {x : Int32} {r m : Nat} (ex : x = nI r) (hr : r < 8) (h3 : h 3 r = nI m) (hm : m ≤ 40) {i n : Int32} : MtF M_X4_hasPlaces 0 [.ref 1, .int x, .int i, .int n] h (some (.int (b2i (PL i n m)))) h := by
  have z := m_hasPlaces (h := h) ex hr (i := i) (n := n)
  rw [h3, b2i_congr (pl_cls hm)] at z
  exact z
def upW (w : Hv) (s t k : Nat) : Hv := hcpy w 1 1 s t k
def dnW (w : Hv) (s t n k : Nat) : Hv := fun x y => if x = 1 ∧ t + n - k ≤ y ∧ y < t + n then w 1 (s + (y - t)) else w x y
theorem up_0 {w : Hv} {s t : Nat} : upW w s t 0 = w := by funext x y; exact if_neg (by omega)
theorem up_s {w : Hv} {s t k : Nat} (h : t ≤ s) : upW w s t (k + 1) = hset (upW w s t k) 1 (t + k) (upW w s t k 1 (s + k)) := by
  funext x y
  unfold upW hcpy hset
  dsimp only
  rw [if_neg (c := 1 = 1 ∧ t ≤ s + k ∧ s + k < t + k) (by omega)]
  by_cases h1 : x = 1 ∧ y = t + k
  · rw [if_pos h1, if_pos (by omega), show s + (y - t) = s + k by omega]
  · rw [if_neg h1]
    by_cases h2 : x = 1 ∧ t ≤ y ∧ y < t + k
    · rw [if_pos h2, if_pos (by omega)]
    · rw [if_neg h2, if_neg (by omega)]
theorem dn_0 {w : Hv} {s t n : Nat} : dnW w s t n 0 = w := by funext x y; exact if_neg (by omega)
theorem dn_s {w : Hv} {s t n k : Nat} (h : s < t) (hk : k < n) : dnW w s t n (k + 1) = hset (dnW w s t n k) 1 (t + (n - 1 - k)) (dnW w s t n k 1 (s + (n - 1 - k))) := by
  funext x y
  unfold dnW hset
  dsimp only
  rw [if_neg (c := 1 = 1 ∧ t + n - k ≤ s + (n - 1 - k) ∧ s + (n - 1 - k) < t + n) (by omega)]
  by_cases h1 : x = 1 ∧ y = t + (n - 1 - k)
  · rw [if_pos h1, if_pos (by omega), show s + (y - t) = s + (n - 1 - k) by omega]
  · rw [if_neg h1]
    by_cases h2 : x = 1 ∧ t + n - k ≤ y ∧ y < t + n
    · rw [if_pos h2, if_pos (by omega)]
    · rw [if_neg h2, if_neg (by omega)]
theorem dn_n {w : Hv} {s t n : Nat} : dnW w s t n n = hcpy w 1 1 s t n := by
  funext x y
  unfold dnW hcpy
  rw [Nat.add_sub_cancel]
theorem mu_cpy {h w : Hv} {a b s t n : Nat} (ha : a < 360) (hb : b < 360) : hcpy (mu h w) a b s t n = mu (hcpy h a b s t n) w := by
  funext x y
  unfold hcpy
  rw [mu_low ha]
  unfold mu blk
  dsimp only
  by_cases h1 : x = b ∧ t ≤ y ∧ y < t + n
  · rw [if_pos h1, if_neg (by omega), if_pos h1]
  · rw [if_neg h1]
    by_cases h2 : 360 ≤ x ∧ x < 360 + 18
    · rw [if_pos h2, if_pos h2]
    · rw [if_neg h2, if_neg h2, if_neg h1]
theorem cp_o {h : Hv} {a b s t n x y : Nat} (hx : ¬ (x = b ∧ t ≤ y ∧ y < t + n)) : hcpy h a b s t n x y = h x y := if_neg hx
theorem rel_copy {h w : Hv} (hR : RelP h w) {r q i j n nr nq : Nat} (hr : r < 8) (hq : q < 8) (er : w 3 r = nI nr) (hnr : nr ≤ 40) (eq : w 3 q = nI nq) (hnq : nq ≤ 40) (hi : i + n ≤ nr) (hj : j + n ≤ nq) : RelP (hset (hcpy h (5 + r) (5 + q) i j n) 0 9 0) (hset (hcpy (hset w 0 0 0) 1 1 (40 * r + i) (40 * q + j) n) 0 4 0) := by
  refine hR.rows (fun x y p z => ?_) (fun x y p z => ?_) ?_ (fun p hp => ?_)
  · rw [hs_ne p, cp_o (by omega)]
  · rw [hs_ne (by omega), cp_o (by omega), hs_ne (by omega)]
  · unfold RStat; rw [hs_at, hs_at]
  · rcases hR.2.1 r hr with ⟨z1, z2⟩ | ⟨ar, mr, a1, a2, a3, a4, a5, a6, a7⟩
    · exact absurd (z2.symm.trans er).symm (nI_ne_m1 (by omega))
    · have emr : mr = nr := nI_inj (a6.symm.trans er) (by omega) (by omega)
      subst emr
      by_cases e : p = q
      · subst e
        rcases hR.2.1 p hp with ⟨z1, z2⟩ | ⟨aq, mq, b1, b2, b3, b4, b5, b6, b7⟩
        · exact absurd (z2.symm.trans eq).symm (nI_ne_m1 (by omega))
        · refine Or.inr ⟨aq, mq, b1, b2, ?_, ?_, ?_, ?_, fun i' hi' => ?_⟩
          · rw [hs_j (by decide), cp_o (by omega)]; exact b3
          · rw [hs_j (by decide), cp_o (by omega), hs_j (by decide)]; exact b4
          · rw [hs_j (by decide), cp_o (by omega)]; exact b5
          · rw [hs_j (by decide), cp_o (by omega), hs_j (by decide)]; exact b6
          · rw [hs_j (j := 0) (x := 5 + p) (by omega), hs_j (j := 0) (x := 1) (b := 4) (by decide)]
            by_cases e2 : j ≤ i' ∧ i' < j + n
            · unfold hcpy
              rw [if_pos ⟨rfl, e2⟩, if_pos ⟨rfl, by omega, by omega⟩, hs_j (by decide), a7 _ (by omega)]
              congr 1
              omega
            · rw [cp_o (fun z => e2 z.2), cp_o (by omega), hs_j (by decide)]; exact b7 i' hi'
      · refine (hR.2.1 p hp).cg ?_ ?_ (fun i' hi' => ?_) ?_ ?_ (fun i' hi' => ?_)
        · rw [hs_j (by decide), cp_o (by omega)]
        · rw [hs_j (by decide), cp_o (by omega)]
        · rw [hs_j (by omega), cp_o (by omega)]
        · rw [hs_j (by decide), cp_o (by omega), hs_j (by decide)]
        · rw [hs_j (by decide), cp_o (by omega), hs_j (by decide)]
        · rw [hs_j (by decide), cp_o (by omega), hs_j (by decide)]
theorem lp_copyU {h w : Hv} {s t m : Nat} (hs : s + m ≤ 320) (ht : t + m ≤ 320) {x1 x2 x3 x4 : Int32} (hst : t ≤ s) {P : Option Value → Hv → Prop} (kx : ∀ y, GdH M_X7_copy 2 170 [some (.ref 360), some (.int x1), some (.int x2), some (.int x3), some (.int x4), some (.int (nI m)), some (.int (nI s)), some (.int (nI t)), some (.int (nI m)), y] [] (mu h (upW w s t m)) P) : ∀ (n j : Nat), j + n = m → ∀ y : Option Value, GdH M_X7_copy 2 116 [some (.ref 360), some (.int x1), some (.int x2), some (.int x3), some (.int x4), some (.int (nI m)), some (.int (nI s)), some (.int (nI t)), some (.int (nI j)), y] [] (mu h (upW w s t j)) P := by
  intro n
  induction n with
  | zero =>
    intro j hj y
    have hj' : j = m := by omega
    rw [hj']
    refine g_iload d_X7_copy_116 rfl ?_
    refine g_iload d_X7_copy_118 rfl ?_
    refine g_icmp_ge d_X7_copy_120 (fun c120 => ?_) (fun c120 => absurd (nI_le (a := m) (b := m) (Nat.le_refl _) (by omega)) c120)
    exact kx y
  | succ n ih =>
    intro j hj y
    refine g_iload d_X7_copy_116 rfl ?_
    refine g_iload d_X7_copy_118 rfl ?_
    refine g_icmp_ge d_X7_copy_120 (fun c120 => absurd c120 (nI_ge (a := j) (b := m) (by omega) (by omega))) (fun c120 => ?_)
    refine g_iload d_X7_copy_123 rfl ?_
    refine g_iload d_X7_copy_125 rfl ?_
    refine g_icmp_le d_X7_copy_127 (fun c127 => ?_) (fun c127 => absurd (nI_le (a := t) (b := s) hst (by omega)) c127)
    refine g_iload d_X7_copy_140 rfl ?_
    refine w_istore (L' := [_, _, _, _, _, _, _, _, _, _]) d_X7_copy_142 rfl rfl rfl ?_
    refine g_aload_n d_X7_copy_144 rfl ?_
    refine h_getR d_X7_copy_145 fl_7_7 sp_M rfl ?_
    refine g_iload d_X7_copy_148 rfl ?_
    refine g_iload d_X7_copy_150 rfl ?_
    refine g_iadd d_X7_copy_152 ?_
    refine g_aload_n d_X7_copy_153 rfl ?_
    refine h_getR d_X7_copy_154 fl_7_7 sp_M rfl ?_
    refine g_iload d_X7_copy_157 rfl ?_
    refine g_iload d_X7_copy_159 rfl ?_
    refine g_iadd d_X7_copy_161 ?_
    refine mm_aldE (k := (s + j)) d_X7_copy_162 (j := 1) sp_m_rows rfl (by decide) (nAdd rfl rfl) (by omega) (by decide) ?_
    refine mm_astE (k := (t + j)) d_X7_copy_163 (j := 1) sp_m_rows rfl (by decide) (nAdd rfl rfl) (by omega) (by decide) ?_
    refine w_iinc (L' := [_, _, _, _, _, _, _, _, _, _]) d_X7_copy_164 ik_1 rfl rfl rfl rfl ?_
    refine g_goto d_X7_copy_167 ?_
    have q := ih (j + 1) (by omega) (some (.int (nI j)))
    rw [up_s hst] at q
    rw [nI_1]
    exact q
theorem lp_copyD {h w : Hv} {s t m : Nat} (hs : s + m ≤ 320) (ht : t + m ≤ 320) {x1 x2 x3 x4 : Int32} (hst : s < t) {P : Option Value → Hv → Prop} (kx : ∀ y, GdH M_X7_copy 2 170 [some (.ref 360), some (.int x1), some (.int x2), some (.int x3), some (.int x4), some (.int (nI m)), some (.int (nI s)), some (.int (nI t)), some (.int (nI m)), y] [] (mu h (dnW w s t m m)) P) : ∀ (n j : Nat), j + n = m → ∀ y : Option Value, GdH M_X7_copy 2 116 [some (.ref 360), some (.int x1), some (.int x2), some (.int x3), some (.int x4), some (.int (nI m)), some (.int (nI s)), some (.int (nI t)), some (.int (nI j)), y] [] (mu h (dnW w s t m j)) P := by
  intro n
  induction n with
  | zero =>
    intro j hj y
    have hj' : j = m := by omega
    rw [hj']
    refine g_iload d_X7_copy_116 rfl ?_
    refine g_iload d_X7_copy_118 rfl ?_
    refine g_icmp_ge d_X7_copy_120 (fun c120 => ?_) (fun c120 => absurd (nI_le (a := m) (b := m) (Nat.le_refl _) (by omega)) c120)
    exact kx y
  | succ n ih =>
    intro j hj y
    have en : nI m - 1 - nI j = nI (m - 1 - j) := by rw [show (1 : Int32) = nI 1 from rfl, pk_sub (by omega), pk_sub (by omega)]
    refine g_iload d_X7_copy_116 rfl ?_
    refine g_iload d_X7_copy_118 rfl ?_
    refine g_icmp_ge d_X7_copy_120 (fun c120 => absurd c120 (nI_ge (a := j) (b := m) (by omega) (by omega))) (fun c120 => ?_)
    refine g_iload d_X7_copy_123 rfl ?_
    refine g_iload d_X7_copy_125 rfl ?_
    refine g_icmp_le d_X7_copy_127 (fun c127 => absurd c127 (nI_ge (a := s) (b := t) hst (by omega))) (fun c127 => ?_)
    refine g_iload d_X7_copy_130 rfl ?_
    refine g_iconst d_X7_copy_132 ik_1 ?_
    refine g_isub d_X7_copy_133 ?_
    refine g_iload d_X7_copy_134 rfl ?_
    refine g_isub d_X7_copy_136 ?_
    refine g_goto d_X7_copy_137 ?_
    refine w_istore (L' := [_, _, _, _, _, _, _, _, _, _]) d_X7_copy_142 rfl rfl rfl ?_
    refine g_aload_n d_X7_copy_144 rfl ?_
    refine h_getR d_X7_copy_145 fl_7_7 sp_M rfl ?_
    refine g_iload d_X7_copy_148 rfl ?_
    refine g_iload d_X7_copy_150 rfl ?_
    refine g_iadd d_X7_copy_152 ?_
    refine g_aload_n d_X7_copy_153 rfl ?_
    refine h_getR d_X7_copy_154 fl_7_7 sp_M rfl ?_
    refine g_iload d_X7_copy_157 rfl ?_
    refine g_iload d_X7_copy_159 rfl ?_
    refine g_iadd d_X7_copy_161 ?_
    refine mm_aldE (k := (s + (m - 1 - j))) d_X7_copy_162 (j := 1) sp_m_rows rfl (by decide) (nAdd rfl en) (by omega) (by decide) ?_
    refine mm_astE (k := (t + (m - 1 - j))) d_X7_copy_163 (j := 1) sp_m_rows rfl (by decide) (nAdd rfl en) (by omega) (by decide) ?_
    refine w_iinc (L' := [_, _, _, _, _, _, _, _, _, _]) d_X7_copy_164 ik_1 rfl rfl rfl rfl ?_
    refine g_goto d_X7_copy_167 ?_
    have q := ih (j + 1) (by omega) (some (.int (nI m - 1 - nI j)))
    rw [dn_s hst (by omega)] at q
    rw [nI_1]
    exact q
theorem op_copy {h w : Hv} (hR : RelP h w) {x i u j n : Int32} : OPI M_X6_copy M_X7_copy 2 2 [.int x, .int i, .int u, .int j, .int n] (mu h w) := by
  refine MtH.of [some (.ref 0), some (.int x), some (.int i), some (.int u), some (.int j), some (.int n)] pl_X6 rfl rfl ?_
  refine g_iload_n d_X6_copy_0 rfl ?_
  refine h_S1i d_X6_copy_1 cl_6_62 m_isOne (Nat.le_of_ble_eq_true rfl) (by decide) ?_
  refine g_if_eq d_X6_copy_4 (fun c4 => ?_) (fun c4 => ?_)
  · refine g_ldc d_X6_copy_14 kc_X6_66 ?_
    refine h_iret d_X6_copy_16 rfl ?_
    refine ⟨_, rfl, ?_⟩
    refine MtH.of [some (.ref 360), some (.int x), some (.int i), some (.int u), some (.int j), some (.int n), none, none, none, none] pl_X7 rfl rfl ?_
    refine g_aload_n d_X7_copy_0 rfl ?_
    refine g_iconst d_X7_copy_1 ik_0 ?_
    refine mm_putI d_X7_copy_2 fl_7_62 sp_M rfl ?_
    refine g_iload_n d_X7_copy_5 rfl ?_
    refine h_S1i d_X7_copy_6 cl_7_74 m7_isRow (Nat.le_of_ble_eq_true rfl) (by decide) ?_
    refine g_if_eq d_X7_copy_9 (fun c9 => ?_) (fun c9 => ?_)
    · refine g_ldc d_X7_copy_19 kc_X7_78 ?_
      refine h_iret d_X7_copy_21 rfl ?_
      exact ⟨rfl, _, _, rfl, hR.fr fr_thrown⟩
    · refine g_iload_n d_X7_copy_12 rfl ?_
      refine h_S1i d_X7_copy_13 cl_7_74 m7_isRow (Nat.le_of_ble_eq_true rfl) (by decide) ?_
      refine g_if_ne d_X7_copy_16 (fun c16 => ?_) (fun c16 => ?_)
      · exfalso
        simp only [b2i_eq0, b2i_ne0, Int32.lt_iff_toInt_lt, Int32.le_iff_toInt_le, t_0, t_1, t_2, t_3, t_4, t_5, t_6, t_7, t_8, t_9, t_10, t_11, t_12, t_20, t_24, t_40, t_50, t_60, t_99, t_110, t_255, t_999, t_999999, t_m1] at *
        omega
      · refine g_ldc d_X7_copy_19 kc_X7_78 ?_
        refine h_iret d_X7_copy_21 rfl ?_
        exact ⟨rfl, _, _, rfl, hR.fr fr_thrown⟩
  · refine g_iload_n d_X6_copy_7 rfl ?_
    refine h_S1i d_X6_copy_8 cl_6_62 m_isOne (Nat.le_of_ble_eq_true rfl) (by decide) ?_
    refine g_if_ne d_X6_copy_11 (fun c11 => ?_) (fun c11 => ?_)
    · obtain ⟨r, hr, rfl⟩ := rngI (x := x) (B := 8) (by simp only [b2i_eq0, b2i_ne0, Int32.lt_iff_toInt_lt, Int32.le_iff_toInt_le, t_0, t_1, t_2, t_3, t_4, t_5, t_6, t_7, t_8, t_9, t_10, t_11, t_12, t_20, t_24, t_40, t_50, t_60, t_99, t_110, t_255, t_999, t_999999, t_m1] at *; omega) (by simp only [b2i_eq0, b2i_ne0, Int32.lt_iff_toInt_lt, Int32.le_iff_toInt_le, t_0, t_1, t_2, t_3, t_4, t_5, t_6, t_7, t_8, t_9, t_10, t_11, t_12, t_20, t_24, t_40, t_50, t_60, t_99, t_110, t_255, t_999, t_999999, t_m1] at *; omega)
      have er : (nI r).toInt = r := nI_toInt (by omega)
      obtain ⟨q, hq, rfl⟩ := rngI (x := u) (B := 8) (by simp only [b2i_eq0, b2i_ne0, Int32.lt_iff_toInt_lt, Int32.le_iff_toInt_le, t_0, t_1, t_2, t_3, t_4, t_5, t_6, t_7, t_8, t_9, t_10, t_11, t_12, t_20, t_24, t_40, t_50, t_60, t_99, t_110, t_255, t_999, t_999999, t_m1, er] at *; omega) (by simp only [b2i_eq0, b2i_ne0, Int32.lt_iff_toInt_lt, Int32.le_iff_toInt_le, t_0, t_1, t_2, t_3, t_4, t_5, t_6, t_7, t_8, t_9, t_10, t_11, t_12, t_20, t_24, t_40, t_50, t_60, t_99, t_110, t_255, t_999, t_999999, t_m1, er] at *; omega)
      have eq : (nI q).toInt = q := nI_toInt (by omega)
      rcases hR.2.1 r hr with ⟨z1, z2⟩ | ⟨ar, mr, a1, a2, a3, a4, a5, a6, a7⟩
      · refine g_aload_n d_X6_copy_17 rfl ?_
        refine h_getR d_X6_copy_18 fl_6_10 sp_L rfl ?_
        refine g_iload_n d_X6_copy_21 rfl ?_
        refine h_V1i d_X6_copy_22 cl_6_85 (m_isMissing rfl hr) sp_Rows (by decide) rfl (Nat.le_of_ble_eq_true rfl) (by decide) ?_
        refine g_if_ne d_X6_copy_25 (fun c25 => ?_) (fun c25 => absurd c25 (by rw [mu_low (by decide), z1]; decide))
        refine g_aload_n d_X6_copy_39 rfl ?_
        refine g_iconst d_X6_copy_40 ik_1 ?_
        refine h_V1i d_X6_copy_41 cl_6_67 m6_found sp_L (by decide) rfl (Nat.le_of_ble_eq_true rfl) (by decide) ?_
        refine h_iret d_X6_copy_44 rfl ?_
        refine ⟨_, rfl, ?_⟩
        rw [mu_hset (by decide)]
        refine MtH.of [some (.ref 360), some (.int (nI r)), some (.int i), some (.int (nI q)), some (.int j), some (.int n), none, none, none, none] pl_X7 rfl rfl ?_
        refine g_aload_n d_X7_copy_0 rfl ?_
        refine g_iconst d_X7_copy_1 ik_0 ?_
        refine mm_putI d_X7_copy_2 fl_7_62 sp_M rfl ?_
        refine g_iload_n d_X7_copy_5 rfl ?_
        refine h_S1i d_X7_copy_6 cl_7_74 m7_isRow (Nat.le_of_ble_eq_true rfl) (by decide) ?_
        refine g_if_eq d_X7_copy_9 (fun c9 => ?_) (fun c9 => ?_)
        · exfalso
          simp only [b2i_eq0, b2i_ne0, Int32.lt_iff_toInt_lt, Int32.le_iff_toInt_le, t_0, t_1, t_2, t_3, t_4, t_5, t_6, t_7, t_8, t_9, t_10, t_11, t_12, t_20, t_24, t_40, t_50, t_60, t_99, t_110, t_255, t_999, t_999999, t_m1, er, eq] at *
          omega
        · refine g_iload_n d_X7_copy_12 rfl ?_
          refine h_S1i d_X7_copy_13 cl_7_74 m7_isRow (Nat.le_of_ble_eq_true rfl) (by decide) ?_
          refine g_if_ne d_X7_copy_16 (fun c16 => ?_) (fun c16 => ?_)
          · refine g_aload_n d_X7_copy_22 rfl ?_
            refine h_getR d_X7_copy_23 fl_7_16 sp_M rfl ?_
            refine g_iload_n d_X7_copy_26 rfl ?_
            refine mm_aldV (k := r) (v := -1) d_X7_copy_27 (j := 3) sp_m_rowSize rfl (by decide) rfl (by omega) (by decide) ((hs_j (by decide)).trans z2) ?_
            refine g_if_lt d_X7_copy_28 (fun c28 => ?_) (fun c28 => absurd (by decide) c28)
            refine g_aload_n d_X7_copy_40 rfl ?_
            refine g_iconst d_X7_copy_41 ik_1 ?_
            refine h_V1i d_X7_copy_42 cl_7_79 m7_found sp_M (by decide) rfl (Nat.le_of_ble_eq_true rfl) (by decide) ?_
            refine h_iret d_X7_copy_45 rfl ?_
            exact ⟨rfl, _, _, rfl, hR.stat 1⟩
          · exfalso
            simp only [b2i_eq0, b2i_ne0, Int32.lt_iff_toInt_lt, Int32.le_iff_toInt_le, t_0, t_1, t_2, t_3, t_4, t_5, t_6, t_7, t_8, t_9, t_10, t_11, t_12, t_20, t_24, t_40, t_50, t_60, t_99, t_110, t_255, t_999, t_999999, t_m1, er, eq] at *
            omega
      · rcases hR.2.1 q hq with ⟨y1, y2⟩ | ⟨aq, mq, b1, b2, b3, b4, b5, b6, b7⟩
        · refine g_aload_n d_X6_copy_17 rfl ?_
          refine h_getR d_X6_copy_18 fl_6_10 sp_L rfl ?_
          refine g_iload_n d_X6_copy_21 rfl ?_
          refine h_V1i d_X6_copy_22 cl_6_85 (m_isMissing rfl hr) sp_Rows (by decide) rfl (Nat.le_of_ble_eq_true rfl) (by decide) ?_
          refine g_if_ne d_X6_copy_25 (fun c25 => absurd (by rw [mu_low (by decide), a3]; exact b2i_f (nI_ne_m1 (by omega))) c25) (fun c25 => ?_)
          refine g_aload_n d_X6_copy_28 rfl ?_
          refine h_getR d_X6_copy_29 fl_6_10 sp_L rfl ?_
          refine g_iload_n d_X6_copy_32 rfl ?_
          refine h_V1i d_X6_copy_33 cl_6_85 (m_isMissing rfl hq) sp_Rows (by decide) rfl (Nat.le_of_ble_eq_true rfl) (by decide) ?_
          refine g_if_eq d_X6_copy_36 (fun c36 => absurd c36 (by rw [mu_low (by decide), y1]; decide)) (fun c36 => ?_)
          refine g_aload_n d_X6_copy_39 rfl ?_
          refine g_iconst d_X6_copy_40 ik_1 ?_
          refine h_V1i d_X6_copy_41 cl_6_67 m6_found sp_L (by decide) rfl (Nat.le_of_ble_eq_true rfl) (by decide) ?_
          refine h_iret d_X6_copy_44 rfl ?_
          refine ⟨_, rfl, ?_⟩
          rw [mu_hset (by decide)]
          refine MtH.of [some (.ref 360), some (.int (nI r)), some (.int i), some (.int (nI q)), some (.int j), some (.int n), none, none, none, none] pl_X7 rfl rfl ?_
          refine g_aload_n d_X7_copy_0 rfl ?_
          refine g_iconst d_X7_copy_1 ik_0 ?_
          refine mm_putI d_X7_copy_2 fl_7_62 sp_M rfl ?_
          refine g_iload_n d_X7_copy_5 rfl ?_
          refine h_S1i d_X7_copy_6 cl_7_74 m7_isRow (Nat.le_of_ble_eq_true rfl) (by decide) ?_
          refine g_if_eq d_X7_copy_9 (fun c9 => ?_) (fun c9 => ?_)
          · exfalso
            simp only [b2i_eq0, b2i_ne0, Int32.lt_iff_toInt_lt, Int32.le_iff_toInt_le, t_0, t_1, t_2, t_3, t_4, t_5, t_6, t_7, t_8, t_9, t_10, t_11, t_12, t_20, t_24, t_40, t_50, t_60, t_99, t_110, t_255, t_999, t_999999, t_m1, er, eq] at *
            omega
          · refine g_iload_n d_X7_copy_12 rfl ?_
            refine h_S1i d_X7_copy_13 cl_7_74 m7_isRow (Nat.le_of_ble_eq_true rfl) (by decide) ?_
            refine g_if_ne d_X7_copy_16 (fun c16 => ?_) (fun c16 => ?_)
            · refine g_aload_n d_X7_copy_22 rfl ?_
              refine h_getR d_X7_copy_23 fl_7_16 sp_M rfl ?_
              refine g_iload_n d_X7_copy_26 rfl ?_
              refine mm_aldV (k := r) (v := nI mr) d_X7_copy_27 (j := 3) sp_m_rowSize rfl (by decide) rfl (by omega) (by decide) ((hs_j (by decide)).trans a6) ?_
              refine g_if_lt d_X7_copy_28 (fun c28 => absurd c28 (nI_pos (by omega))) (fun c28 => ?_)
              refine g_aload_n d_X7_copy_31 rfl ?_
              refine h_getR d_X7_copy_32 fl_7_16 sp_M rfl ?_
              refine g_iload_n d_X7_copy_35 rfl ?_
              refine mm_aldV (k := q) (v := -1) d_X7_copy_36 (j := 3) sp_m_rowSize rfl (by decide) rfl (by omega) (by decide) ((hs_j (by decide)).trans y2) ?_
              refine g_if_ge d_X7_copy_37 (fun c37 => absurd c37 (by decide)) (fun c37 => ?_)
              refine g_aload_n d_X7_copy_40 rfl ?_
              refine g_iconst d_X7_copy_41 ik_1 ?_
              refine h_V1i d_X7_copy_42 cl_7_79 m7_found sp_M (by decide) rfl (Nat.le_of_ble_eq_true rfl) (by decide) ?_
              refine h_iret d_X7_copy_45 rfl ?_
              exact ⟨rfl, _, _, rfl, hR.stat 1⟩
            · exfalso
              simp only [b2i_eq0, b2i_ne0, Int32.lt_iff_toInt_lt, Int32.le_iff_toInt_le, t_0, t_1, t_2, t_3, t_4, t_5, t_6, t_7, t_8, t_9, t_10, t_11, t_12, t_20, t_24, t_40, t_50, t_60, t_99, t_110, t_255, t_999, t_999999, t_m1, er, eq] at *
              omega
        · by_cases el : ar = aq
          · by_cases p1 : PL i n mr
            · by_cases p2 : PL j n mq
              · obtain ⟨i, hi, rfl⟩ := rngI (x := i) (B := 41) p1.1 (by have := p1.2; omega)
                obtain ⟨j, hj, rfl⟩ := rngI (x := j) (B := 41) p2.1 (by have := p2.2; omega)
                obtain ⟨n, hn, rfl⟩ := rngI (x := n) (B := 41) p1.2.1 (by have := p1.1; have := p1.2; omega)
                have ei : (nI i).toInt = i := nI_toInt (by omega)
                have ej : (nI j).toInt = j := nI_toInt (by omega)
                have en : (nI n).toInt = n := nI_toInt (by omega)
                have l1 : i + n ≤ mr := by have := p1.2.2; rw [ei, en] at this; omega
                have l2 : j + n ≤ mq := by have := p2.2.2; rw [ej, en] at this; omega
                refine g_aload_n d_X6_copy_17 rfl ?_
                refine h_getR d_X6_copy_18 fl_6_10 sp_L rfl ?_
                refine g_iload_n d_X6_copy_21 rfl ?_
                refine h_V1i d_X6_copy_22 cl_6_85 (m_isMissing rfl hr) sp_Rows (by decide) rfl (Nat.le_of_ble_eq_true rfl) (by decide) ?_
                refine g_if_ne d_X6_copy_25 (fun c25 => absurd (by rw [mu_low (by decide), a3]; exact b2i_f (nI_ne_m1 (by omega))) c25) (fun c25 => ?_)
                refine g_aload_n d_X6_copy_28 rfl ?_
                refine h_getR d_X6_copy_29 fl_6_10 sp_L rfl ?_
                refine g_iload_n d_X6_copy_32 rfl ?_
                refine h_V1i d_X6_copy_33 cl_6_85 (m_isMissing rfl hq) sp_Rows (by decide) rfl (Nat.le_of_ble_eq_true rfl) (by decide) ?_
                refine g_if_eq d_X6_copy_36 (fun c36 => ?_) (fun c36 => absurd (by rw [mu_low (by decide), b3]; exact b2i_f (nI_ne_m1 (by omega))) c36)
                refine g_aload_n d_X6_copy_45 rfl ?_
                refine h_getR d_X6_copy_46 fl_6_10 sp_L rfl ?_
                refine h_getR d_X6_copy_49 fl_6_88 sp_Rows rfl ?_
                refine g_iload_n d_X6_copy_52 rfl ?_
                refine h_aldV (k := r) (v := nI ar) d_X6_copy_53 sp_lanes rfl (by omega) (by decide) ((mu_low (by decide)).trans a3) ?_
                refine g_aload_n d_X6_copy_54 rfl ?_
                refine h_getR d_X6_copy_55 fl_6_10 sp_L rfl ?_
                refine h_getR d_X6_copy_58 fl_6_88 sp_Rows rfl ?_
                refine g_iload_n d_X6_copy_61 rfl ?_
                refine h_aldV (k := q) (v := nI aq) d_X6_copy_62 sp_lanes rfl (by omega) (by decide) ((mu_low (by decide)).trans b3) ?_
                refine g_icmp_eq d_X6_copy_63 (fun c63 => ?_) (fun c63 => absurd (congrArg nI el) c63)
                refine g_aload_n d_X6_copy_72 rfl ?_
                refine h_getR d_X6_copy_73 fl_6_10 sp_L rfl ?_
                refine g_iload_n d_X6_copy_76 rfl ?_
                refine g_iload_n d_X6_copy_77 rfl ?_
                refine g_iload d_X6_copy_78 rfl ?_
                refine h_V3i d_X6_copy_80 cl_6_91 (m_places rfl hr ((mu_low (by decide)).trans a5) a2) sp_Rows (by decide) rfl (Nat.le_of_ble_eq_true rfl) (by decide) ?_
                refine g_if_eq d_X6_copy_83 (fun c83 => absurd c83 (b2i_ne0.mpr p1)) (fun c83 => ?_)
                refine g_aload_n d_X6_copy_86 rfl ?_
                refine h_getR d_X6_copy_87 fl_6_10 sp_L rfl ?_
                refine g_iload_n d_X6_copy_90 rfl ?_
                refine g_iload d_X6_copy_91 rfl ?_
                refine g_iload d_X6_copy_93 rfl ?_
                refine h_V3i d_X6_copy_95 cl_6_91 (m_places rfl hq ((mu_low (by decide)).trans b5) b2) sp_Rows (by decide) rfl (Nat.le_of_ble_eq_true rfl) (by decide) ?_
                refine g_if_ne d_X6_copy_98 (fun c98 => ?_) (fun c98 => absurd c98 (b2i_ne0.mpr p2))
                refine g_aload_n d_X6_copy_107 rfl ?_
                refine h_getR d_X6_copy_108 fl_6_10 sp_L rfl ?_
                refine h_getR d_X6_copy_111 fl_6_95 sp_Rows rfl ?_
                refine g_iload_n d_X6_copy_114 rfl ?_
                refine h_aaldI d_X6_copy_115 sp_items (nI_pos (by omega)) (items_at hr) ?_
                refine g_iload_n d_X6_copy_116 rfl ?_
                refine g_aload_n d_X6_copy_117 rfl ?_
                refine h_getR d_X6_copy_118 fl_6_10 sp_L rfl ?_
                refine h_getR d_X6_copy_121 fl_6_95 sp_Rows rfl ?_
                refine g_iload_n d_X6_copy_124 rfl ?_
                refine h_aaldI d_X6_copy_125 sp_items (nI_pos (by omega)) (items_at hq) ?_
                refine g_iload d_X6_copy_126 rfl ?_
                refine g_iload d_X6_copy_128 rfl ?_
                refine h_copy d_X6_copy_130 ac_6_99 (sp_item hr) (sp_item hq) (nI_pos (by omega)) (nI_pos (by omega)) (nI_pos (by omega)) (by rw [nI_clamp (by omega), nI_clamp (by omega)]; omega) (by rw [nI_clamp (by omega), nI_clamp (by omega)]; omega) (by decide) (Nat.le_of_ble_eq_true rfl) ?_
                refine g_aload_n d_X6_copy_133 rfl ?_
                refine g_iload d_X6_copy_134 rfl ?_
                refine h_V1i d_X6_copy_136 cl_6_75 m6_foundNothing sp_L (by decide) rfl (Nat.le_of_ble_eq_true rfl) (by decide) ?_
                refine h_iret d_X6_copy_139 rfl ?_
                refine ⟨_, rfl, ?_⟩
                rw [nI_clamp (by omega), nI_clamp (by omega), nI_clamp (by omega), mu_cpy (by omega) (by omega), mu_hset (by decide)]
                refine MtH.of [some (.ref 360), some (.int (nI r)), some (.int (nI i)), some (.int (nI q)), some (.int (nI j)), some (.int (nI n)), none, none, none, none] pl_X7 rfl rfl ?_
                refine g_aload_n d_X7_copy_0 rfl ?_
                refine g_iconst d_X7_copy_1 ik_0 ?_
                refine mm_putI d_X7_copy_2 fl_7_62 sp_M rfl ?_
                refine g_iload_n d_X7_copy_5 rfl ?_
                refine h_S1i d_X7_copy_6 cl_7_74 m7_isRow (Nat.le_of_ble_eq_true rfl) (by decide) ?_
                refine g_if_eq d_X7_copy_9 (fun c9 => ?_) (fun c9 => ?_)
                · exfalso
                  simp only [b2i_eq0, b2i_ne0, Int32.lt_iff_toInt_lt, Int32.le_iff_toInt_le, t_0, t_1, t_2, t_3, t_4, t_5, t_6, t_7, t_8, t_9, t_10, t_11, t_12, t_20, t_24, t_40, t_50, t_60, t_99, t_110, t_255, t_999, t_999999, t_m1, er, eq] at *
                  omega
                · refine g_iload_n d_X7_copy_12 rfl ?_
                  refine h_S1i d_X7_copy_13 cl_7_74 m7_isRow (Nat.le_of_ble_eq_true rfl) (by decide) ?_
                  refine g_if_ne d_X7_copy_16 (fun c16 => ?_) (fun c16 => ?_)
                  · refine g_aload_n d_X7_copy_22 rfl ?_
                    refine h_getR d_X7_copy_23 fl_7_16 sp_M rfl ?_
                    refine g_iload_n d_X7_copy_26 rfl ?_
                    refine mm_aldV (k := r) (v := nI mr) d_X7_copy_27 (j := 3) sp_m_rowSize rfl (by decide) rfl (by omega) (by decide) ((hs_j (by decide)).trans a6) ?_
                    refine g_if_lt d_X7_copy_28 (fun c28 => absurd c28 (nI_pos (by omega))) (fun c28 => ?_)
                    refine g_aload_n d_X7_copy_31 rfl ?_
                    refine h_getR d_X7_copy_32 fl_7_16 sp_M rfl ?_
                    refine g_iload_n d_X7_copy_35 rfl ?_
                    refine mm_aldV (k := q) (v := nI mq) d_X7_copy_36 (j := 3) sp_m_rowSize rfl (by decide) rfl (by omega) (by decide) ((hs_j (by decide)).trans b6) ?_
                    refine g_if_ge d_X7_copy_37 (fun c37 => ?_) (fun c37 => absurd (nI_le (a := 0) (b := mq) (by omega) (by omega)) c37)
                    refine g_aload_n d_X7_copy_46 rfl ?_
                    refine h_getR d_X7_copy_47 fl_7_13 sp_M rfl ?_
                    refine g_iload_n d_X7_copy_50 rfl ?_
                    refine mm_aldV (k := r) (v := nI ar) d_X7_copy_51 (j := 2) sp_m_lane rfl (by decide) rfl (by omega) (by decide) ((hs_j (by decide)).trans a4) ?_
                    refine g_aload_n d_X7_copy_52 rfl ?_
                    refine h_getR d_X7_copy_53 fl_7_13 sp_M rfl ?_
                    refine g_iload_n d_X7_copy_56 rfl ?_
                    refine mm_aldV (k := q) (v := nI aq) d_X7_copy_57 (j := 2) sp_m_lane rfl (by decide) rfl (by omega) (by decide) ((hs_j (by decide)).trans b4) ?_
                    refine g_icmp_eq d_X7_copy_58 (fun c58 => ?_) (fun c58 => absurd (congrArg nI el) c58)
                    refine g_aload_n d_X7_copy_67 rfl ?_
                    refine g_iload_n d_X7_copy_68 rfl ?_
                    refine g_iload_n d_X7_copy_69 rfl ?_
                    refine g_iload d_X7_copy_70 rfl ?_
                    refine h_V3i d_X7_copy_72 cl_7_86 (m7_isPart rfl hr ((hs_j (by decide)).trans a6) a2) sp_M (by decide) rfl (Nat.le_of_ble_eq_true rfl) (by decide) ?_
                    refine g_if_eq d_X7_copy_75 (fun c75 => absurd c75 (b2i_ne0.mpr p1)) (fun c75 => ?_)
                    refine g_aload_n d_X7_copy_78 rfl ?_
                    refine g_iload_n d_X7_copy_79 rfl ?_
                    refine g_iload d_X7_copy_80 rfl ?_
                    refine g_iload d_X7_copy_82 rfl ?_
                    refine h_V3i d_X7_copy_84 cl_7_86 (m7_isPart rfl hq ((hs_j (by decide)).trans b6) b2) sp_M (by decide) rfl (Nat.le_of_ble_eq_true rfl) (by decide) ?_
                    refine g_if_ne d_X7_copy_87 (fun c87 => ?_) (fun c87 => absurd c87 (b2i_ne0.mpr p2))
                    refine g_bipush d_X7_copy_96 bk_40 ?_
                    refine g_iload_n d_X7_copy_98 rfl ?_
                    refine g_imul d_X7_copy_99 ?_
                    refine g_iload_n d_X7_copy_100 rfl ?_
                    refine g_iadd d_X7_copy_101 ?_
                    refine w_istore (L' := [_, _, _, _, _, _, _, _, _, _]) d_X7_copy_102 rfl rfl rfl ?_
                    refine g_bipush d_X7_copy_104 bk_40 ?_
                    refine g_iload_n d_X7_copy_106 rfl ?_
                    refine g_imul d_X7_copy_107 ?_
                    refine g_iload d_X7_copy_108 rfl ?_
                    refine g_iadd d_X7_copy_110 ?_
                    refine w_istore (L' := [_, _, _, _, _, _, _, _, _, _]) d_X7_copy_111 rfl rfl rfl ?_
                    refine g_iconst d_X7_copy_113 ik_0 ?_
                    refine w_istore (L' := [_, _, _, _, _, _, _, _, _, _]) d_X7_copy_114 rfl rfl rfl ?_
                    have kx : ∀ y, GdH M_X7_copy 2 170 [some (.ref 360), some (.int (nI r)), some (.int (nI i)), some (.int (nI q)), some (.int (nI j)), some (.int (nI n)), some (.int (nI (40 * r + i))), some (.int (nI (40 * q + j))), some (.int (nI n)), y] [] (mu (hset (hcpy h (5 + r) (5 + q) i j n) 0 9 0) (hcpy (hset w 0 0 0) 1 1 (40 * r + i) (40 * q + j) n)) (fun v' h'' => v' = some (.int (nI n)) ∧ Rel h'') := by
                      intro y
                      refine g_aload_n d_X7_copy_170 rfl ?_
                      refine g_iload d_X7_copy_171 rfl ?_
                      refine h_V1i d_X7_copy_173 cl_7_83 m7_well sp_M (by decide) rfl (Nat.le_of_ble_eq_true rfl) (by decide) ?_
                      refine h_iret d_X7_copy_176 rfl ?_
                      exact ⟨rfl, _, _, rfl, rel_copy hR hr hq a6 a2 b6 b2 (by omega) (by omega)⟩
                    rw [show (40 : Int32) * nI r + nI i = nI (40 * r + i) from nAdd (nMul rfl rfl) rfl, show (40 : Int32) * nI q + nI j = nI (40 * q + j) from nAdd (nMul rfl rfl) rfl]
                    rcases Nat.lt_or_ge (40 * r + i) (40 * q + j) with hst | hst
                    · have kz := lp_copyD (h := hset (hcpy h (5 + r) (5 + q) i j n) 0 9 0) (w := hset w 0 0 0) (s := 40 * r + i) (t := 40 * q + j) (m := n) (by omega) (by omega) hst (fun y => by rw [dn_n]; exact kx y) n 0 (by omega) none
                      rw [dn_0] at kz
                      exact kz
                    · have kz := lp_copyU (h := hset (hcpy h (5 + r) (5 + q) i j n) 0 9 0) (w := hset w 0 0 0) (s := 40 * r + i) (t := 40 * q + j) (m := n) (by omega) (by omega) hst (fun y => kx y) n 0 (by omega) none
                      rw [up_0] at kz
                      exact kz
                  · exfalso
                    simp only [b2i_eq0, b2i_ne0, Int32.lt_iff_toInt_lt, Int32.le_iff_toInt_le, t_0, t_1, t_2, t_3, t_4, t_5, t_6, t_7, t_8, t_9, t_10, t_11, t_12, t_20, t_24, t_40, t_50, t_60, t_99, t_110, t_255, t_999, t_999999, t_m1, er, eq] at *
                    omega
              · refine g_aload_n d_X6_copy_17 rfl ?_
                refine h_getR d_X6_copy_18 fl_6_10 sp_L rfl ?_
                refine g_iload_n d_X6_copy_21 rfl ?_
                refine h_V1i d_X6_copy_22 cl_6_85 (m_isMissing rfl hr) sp_Rows (by decide) rfl (Nat.le_of_ble_eq_true rfl) (by decide) ?_
                refine g_if_ne d_X6_copy_25 (fun c25 => absurd (by rw [mu_low (by decide), a3]; exact b2i_f (nI_ne_m1 (by omega))) c25) (fun c25 => ?_)
                refine g_aload_n d_X6_copy_28 rfl ?_
                refine h_getR d_X6_copy_29 fl_6_10 sp_L rfl ?_
                refine g_iload_n d_X6_copy_32 rfl ?_
                refine h_V1i d_X6_copy_33 cl_6_85 (m_isMissing rfl hq) sp_Rows (by decide) rfl (Nat.le_of_ble_eq_true rfl) (by decide) ?_
                refine g_if_eq d_X6_copy_36 (fun c36 => ?_) (fun c36 => absurd (by rw [mu_low (by decide), b3]; exact b2i_f (nI_ne_m1 (by omega))) c36)
                refine g_aload_n d_X6_copy_45 rfl ?_
                refine h_getR d_X6_copy_46 fl_6_10 sp_L rfl ?_
                refine h_getR d_X6_copy_49 fl_6_88 sp_Rows rfl ?_
                refine g_iload_n d_X6_copy_52 rfl ?_
                refine h_aldV (k := r) (v := nI ar) d_X6_copy_53 sp_lanes rfl (by omega) (by decide) ((mu_low (by decide)).trans a3) ?_
                refine g_aload_n d_X6_copy_54 rfl ?_
                refine h_getR d_X6_copy_55 fl_6_10 sp_L rfl ?_
                refine h_getR d_X6_copy_58 fl_6_88 sp_Rows rfl ?_
                refine g_iload_n d_X6_copy_61 rfl ?_
                refine h_aldV (k := q) (v := nI aq) d_X6_copy_62 sp_lanes rfl (by omega) (by decide) ((mu_low (by decide)).trans b3) ?_
                refine g_icmp_eq d_X6_copy_63 (fun c63 => ?_) (fun c63 => absurd (congrArg nI el) c63)
                refine g_aload_n d_X6_copy_72 rfl ?_
                refine h_getR d_X6_copy_73 fl_6_10 sp_L rfl ?_
                refine g_iload_n d_X6_copy_76 rfl ?_
                refine g_iload_n d_X6_copy_77 rfl ?_
                refine g_iload d_X6_copy_78 rfl ?_
                refine h_V3i d_X6_copy_80 cl_6_91 (m_places rfl hr ((mu_low (by decide)).trans a5) a2) sp_Rows (by decide) rfl (Nat.le_of_ble_eq_true rfl) (by decide) ?_
                refine g_if_eq d_X6_copy_83 (fun c83 => absurd c83 (b2i_ne0.mpr p1)) (fun c83 => ?_)
                refine g_aload_n d_X6_copy_86 rfl ?_
                refine h_getR d_X6_copy_87 fl_6_10 sp_L rfl ?_
                refine g_iload_n d_X6_copy_90 rfl ?_
                refine g_iload d_X6_copy_91 rfl ?_
                refine g_iload d_X6_copy_93 rfl ?_
                refine h_V3i d_X6_copy_95 cl_6_91 (m_places rfl hq ((mu_low (by decide)).trans b5) b2) sp_Rows (by decide) rfl (Nat.le_of_ble_eq_true rfl) (by decide) ?_
                refine g_if_ne d_X6_copy_98 (fun c98 => absurd (b2i_f p2) c98) (fun c98 => ?_)
                refine g_aload_n d_X6_copy_101 rfl ?_
                refine g_iconst d_X6_copy_102 ik_2 ?_
                refine h_V1i d_X6_copy_103 cl_6_67 m6_found sp_L (by decide) rfl (Nat.le_of_ble_eq_true rfl) (by decide) ?_
                refine h_iret d_X6_copy_106 rfl ?_
                refine ⟨_, rfl, ?_⟩
                rw [mu_hset (by decide)]
                refine MtH.of [some (.ref 360), some (.int (nI r)), some (.int i), some (.int (nI q)), some (.int j), some (.int n), none, none, none, none] pl_X7 rfl rfl ?_
                refine g_aload_n d_X7_copy_0 rfl ?_
                refine g_iconst d_X7_copy_1 ik_0 ?_
                refine mm_putI d_X7_copy_2 fl_7_62 sp_M rfl ?_
                refine g_iload_n d_X7_copy_5 rfl ?_
                refine h_S1i d_X7_copy_6 cl_7_74 m7_isRow (Nat.le_of_ble_eq_true rfl) (by decide) ?_
                refine g_if_eq d_X7_copy_9 (fun c9 => ?_) (fun c9 => ?_)
                · exfalso
                  simp only [b2i_eq0, b2i_ne0, Int32.lt_iff_toInt_lt, Int32.le_iff_toInt_le, t_0, t_1, t_2, t_3, t_4, t_5, t_6, t_7, t_8, t_9, t_10, t_11, t_12, t_20, t_24, t_40, t_50, t_60, t_99, t_110, t_255, t_999, t_999999, t_m1, er, eq] at *
                  omega
                · refine g_iload_n d_X7_copy_12 rfl ?_
                  refine h_S1i d_X7_copy_13 cl_7_74 m7_isRow (Nat.le_of_ble_eq_true rfl) (by decide) ?_
                  refine g_if_ne d_X7_copy_16 (fun c16 => ?_) (fun c16 => ?_)
                  · refine g_aload_n d_X7_copy_22 rfl ?_
                    refine h_getR d_X7_copy_23 fl_7_16 sp_M rfl ?_
                    refine g_iload_n d_X7_copy_26 rfl ?_
                    refine mm_aldV (k := r) (v := nI mr) d_X7_copy_27 (j := 3) sp_m_rowSize rfl (by decide) rfl (by omega) (by decide) ((hs_j (by decide)).trans a6) ?_
                    refine g_if_lt d_X7_copy_28 (fun c28 => absurd c28 (nI_pos (by omega))) (fun c28 => ?_)
                    refine g_aload_n d_X7_copy_31 rfl ?_
                    refine h_getR d_X7_copy_32 fl_7_16 sp_M rfl ?_
                    refine g_iload_n d_X7_copy_35 rfl ?_
                    refine mm_aldV (k := q) (v := nI mq) d_X7_copy_36 (j := 3) sp_m_rowSize rfl (by decide) rfl (by omega) (by decide) ((hs_j (by decide)).trans b6) ?_
                    refine g_if_ge d_X7_copy_37 (fun c37 => ?_) (fun c37 => absurd (nI_le (a := 0) (b := mq) (by omega) (by omega)) c37)
                    refine g_aload_n d_X7_copy_46 rfl ?_
                    refine h_getR d_X7_copy_47 fl_7_13 sp_M rfl ?_
                    refine g_iload_n d_X7_copy_50 rfl ?_
                    refine mm_aldV (k := r) (v := nI ar) d_X7_copy_51 (j := 2) sp_m_lane rfl (by decide) rfl (by omega) (by decide) ((hs_j (by decide)).trans a4) ?_
                    refine g_aload_n d_X7_copy_52 rfl ?_
                    refine h_getR d_X7_copy_53 fl_7_13 sp_M rfl ?_
                    refine g_iload_n d_X7_copy_56 rfl ?_
                    refine mm_aldV (k := q) (v := nI aq) d_X7_copy_57 (j := 2) sp_m_lane rfl (by decide) rfl (by omega) (by decide) ((hs_j (by decide)).trans b4) ?_
                    refine g_icmp_eq d_X7_copy_58 (fun c58 => ?_) (fun c58 => absurd (congrArg nI el) c58)
                    refine g_aload_n d_X7_copy_67 rfl ?_
                    refine g_iload_n d_X7_copy_68 rfl ?_
                    refine g_iload_n d_X7_copy_69 rfl ?_
                    refine g_iload d_X7_copy_70 rfl ?_
                    refine h_V3i d_X7_copy_72 cl_7_86 (m7_isPart rfl hr ((hs_j (by decide)).trans a6) a2) sp_M (by decide) rfl (Nat.le_of_ble_eq_true rfl) (by decide) ?_
                    refine g_if_eq d_X7_copy_75 (fun c75 => absurd c75 (b2i_ne0.mpr p1)) (fun c75 => ?_)
                    refine g_aload_n d_X7_copy_78 rfl ?_
                    refine g_iload_n d_X7_copy_79 rfl ?_
                    refine g_iload d_X7_copy_80 rfl ?_
                    refine g_iload d_X7_copy_82 rfl ?_
                    refine h_V3i d_X7_copy_84 cl_7_86 (m7_isPart rfl hq ((hs_j (by decide)).trans b6) b2) sp_M (by decide) rfl (Nat.le_of_ble_eq_true rfl) (by decide) ?_
                    refine g_if_ne d_X7_copy_87 (fun c87 => absurd (b2i_f p2) c87) (fun c87 => ?_)
                    refine g_aload_n d_X7_copy_90 rfl ?_
                    refine g_iconst d_X7_copy_91 ik_2 ?_
                    refine h_V1i d_X7_copy_92 cl_7_79 m7_found sp_M (by decide) rfl (Nat.le_of_ble_eq_true rfl) (by decide) ?_
                    refine h_iret d_X7_copy_95 rfl ?_
                    exact ⟨rfl, _, _, rfl, hR.stat 2⟩
                  · exfalso
                    simp only [b2i_eq0, b2i_ne0, Int32.lt_iff_toInt_lt, Int32.le_iff_toInt_le, t_0, t_1, t_2, t_3, t_4, t_5, t_6, t_7, t_8, t_9, t_10, t_11, t_12, t_20, t_24, t_40, t_50, t_60, t_99, t_110, t_255, t_999, t_999999, t_m1, er, eq] at *
                    omega
            · refine g_aload_n d_X6_copy_17 rfl ?_
              refine h_getR d_X6_copy_18 fl_6_10 sp_L rfl ?_
              refine g_iload_n d_X6_copy_21 rfl ?_
              refine h_V1i d_X6_copy_22 cl_6_85 (m_isMissing rfl hr) sp_Rows (by decide) rfl (Nat.le_of_ble_eq_true rfl) (by decide) ?_
              refine g_if_ne d_X6_copy_25 (fun c25 => absurd (by rw [mu_low (by decide), a3]; exact b2i_f (nI_ne_m1 (by omega))) c25) (fun c25 => ?_)
              refine g_aload_n d_X6_copy_28 rfl ?_
              refine h_getR d_X6_copy_29 fl_6_10 sp_L rfl ?_
              refine g_iload_n d_X6_copy_32 rfl ?_
              refine h_V1i d_X6_copy_33 cl_6_85 (m_isMissing rfl hq) sp_Rows (by decide) rfl (Nat.le_of_ble_eq_true rfl) (by decide) ?_
              refine g_if_eq d_X6_copy_36 (fun c36 => ?_) (fun c36 => absurd (by rw [mu_low (by decide), b3]; exact b2i_f (nI_ne_m1 (by omega))) c36)
              refine g_aload_n d_X6_copy_45 rfl ?_
              refine h_getR d_X6_copy_46 fl_6_10 sp_L rfl ?_
              refine h_getR d_X6_copy_49 fl_6_88 sp_Rows rfl ?_
              refine g_iload_n d_X6_copy_52 rfl ?_
              refine h_aldV (k := r) (v := nI ar) d_X6_copy_53 sp_lanes rfl (by omega) (by decide) ((mu_low (by decide)).trans a3) ?_
              refine g_aload_n d_X6_copy_54 rfl ?_
              refine h_getR d_X6_copy_55 fl_6_10 sp_L rfl ?_
              refine h_getR d_X6_copy_58 fl_6_88 sp_Rows rfl ?_
              refine g_iload_n d_X6_copy_61 rfl ?_
              refine h_aldV (k := q) (v := nI aq) d_X6_copy_62 sp_lanes rfl (by omega) (by decide) ((mu_low (by decide)).trans b3) ?_
              refine g_icmp_eq d_X6_copy_63 (fun c63 => ?_) (fun c63 => absurd (congrArg nI el) c63)
              refine g_aload_n d_X6_copy_72 rfl ?_
              refine h_getR d_X6_copy_73 fl_6_10 sp_L rfl ?_
              refine g_iload_n d_X6_copy_76 rfl ?_
              refine g_iload_n d_X6_copy_77 rfl ?_
              refine g_iload d_X6_copy_78 rfl ?_
              refine h_V3i d_X6_copy_80 cl_6_91 (m_places rfl hr ((mu_low (by decide)).trans a5) a2) sp_Rows (by decide) rfl (Nat.le_of_ble_eq_true rfl) (by decide) ?_
              refine g_if_eq d_X6_copy_83 (fun c83 => ?_) (fun c83 => absurd (b2i_f p1) c83)
              refine g_aload_n d_X6_copy_101 rfl ?_
              refine g_iconst d_X6_copy_102 ik_2 ?_
              refine h_V1i d_X6_copy_103 cl_6_67 m6_found sp_L (by decide) rfl (Nat.le_of_ble_eq_true rfl) (by decide) ?_
              refine h_iret d_X6_copy_106 rfl ?_
              refine ⟨_, rfl, ?_⟩
              rw [mu_hset (by decide)]
              refine MtH.of [some (.ref 360), some (.int (nI r)), some (.int i), some (.int (nI q)), some (.int j), some (.int n), none, none, none, none] pl_X7 rfl rfl ?_
              refine g_aload_n d_X7_copy_0 rfl ?_
              refine g_iconst d_X7_copy_1 ik_0 ?_
              refine mm_putI d_X7_copy_2 fl_7_62 sp_M rfl ?_
              refine g_iload_n d_X7_copy_5 rfl ?_
              refine h_S1i d_X7_copy_6 cl_7_74 m7_isRow (Nat.le_of_ble_eq_true rfl) (by decide) ?_
              refine g_if_eq d_X7_copy_9 (fun c9 => ?_) (fun c9 => ?_)
              · exfalso
                simp only [b2i_eq0, b2i_ne0, Int32.lt_iff_toInt_lt, Int32.le_iff_toInt_le, t_0, t_1, t_2, t_3, t_4, t_5, t_6, t_7, t_8, t_9, t_10, t_11, t_12, t_20, t_24, t_40, t_50, t_60, t_99, t_110, t_255, t_999, t_999999, t_m1, er, eq] at *
                omega
              · refine g_iload_n d_X7_copy_12 rfl ?_
                refine h_S1i d_X7_copy_13 cl_7_74 m7_isRow (Nat.le_of_ble_eq_true rfl) (by decide) ?_
                refine g_if_ne d_X7_copy_16 (fun c16 => ?_) (fun c16 => ?_)
                · refine g_aload_n d_X7_copy_22 rfl ?_
                  refine h_getR d_X7_copy_23 fl_7_16 sp_M rfl ?_
                  refine g_iload_n d_X7_copy_26 rfl ?_
                  refine mm_aldV (k := r) (v := nI mr) d_X7_copy_27 (j := 3) sp_m_rowSize rfl (by decide) rfl (by omega) (by decide) ((hs_j (by decide)).trans a6) ?_
                  refine g_if_lt d_X7_copy_28 (fun c28 => absurd c28 (nI_pos (by omega))) (fun c28 => ?_)
                  refine g_aload_n d_X7_copy_31 rfl ?_
                  refine h_getR d_X7_copy_32 fl_7_16 sp_M rfl ?_
                  refine g_iload_n d_X7_copy_35 rfl ?_
                  refine mm_aldV (k := q) (v := nI mq) d_X7_copy_36 (j := 3) sp_m_rowSize rfl (by decide) rfl (by omega) (by decide) ((hs_j (by decide)).trans b6) ?_
                  refine g_if_ge d_X7_copy_37 (fun c37 => ?_) (fun c37 => absurd (nI_le (a := 0) (b := mq) (by omega) (by omega)) c37)
                  refine g_aload_n d_X7_copy_46 rfl ?_
                  refine h_getR d_X7_copy_47 fl_7_13 sp_M rfl ?_
                  refine g_iload_n d_X7_copy_50 rfl ?_
                  refine mm_aldV (k := r) (v := nI ar) d_X7_copy_51 (j := 2) sp_m_lane rfl (by decide) rfl (by omega) (by decide) ((hs_j (by decide)).trans a4) ?_
                  refine g_aload_n d_X7_copy_52 rfl ?_
                  refine h_getR d_X7_copy_53 fl_7_13 sp_M rfl ?_
                  refine g_iload_n d_X7_copy_56 rfl ?_
                  refine mm_aldV (k := q) (v := nI aq) d_X7_copy_57 (j := 2) sp_m_lane rfl (by decide) rfl (by omega) (by decide) ((hs_j (by decide)).trans b4) ?_
                  refine g_icmp_eq d_X7_copy_58 (fun c58 => ?_) (fun c58 => absurd (congrArg nI el) c58)
                  refine g_aload_n d_X7_copy_67 rfl ?_
                  refine g_iload_n d_X7_copy_68 rfl ?_
                  refine g_iload_n d_X7_copy_69 rfl ?_
                  refine g_iload d_X7_copy_70 rfl ?_
                  refine h_V3i d_X7_copy_72 cl_7_86 (m7_isPart rfl hr ((hs_j (by decide)).trans a6) a2) sp_M (by decide) rfl (Nat.le_of_ble_eq_true rfl) (by decide) ?_
                  refine g_if_eq d_X7_copy_75 (fun c75 => ?_) (fun c75 => absurd (b2i_f p1) c75)
                  refine g_aload_n d_X7_copy_90 rfl ?_
                  refine g_iconst d_X7_copy_91 ik_2 ?_
                  refine h_V1i d_X7_copy_92 cl_7_79 m7_found sp_M (by decide) rfl (Nat.le_of_ble_eq_true rfl) (by decide) ?_
                  refine h_iret d_X7_copy_95 rfl ?_
                  exact ⟨rfl, _, _, rfl, hR.stat 2⟩
                · exfalso
                  simp only [b2i_eq0, b2i_ne0, Int32.lt_iff_toInt_lt, Int32.le_iff_toInt_le, t_0, t_1, t_2, t_3, t_4, t_5, t_6, t_7, t_8, t_9, t_10, t_11, t_12, t_20, t_24, t_40, t_50, t_60, t_99, t_110, t_255, t_999, t_999999, t_m1, er, eq] at *
                  omega
          · refine g_aload_n d_X6_copy_17 rfl ?_
            refine h_getR d_X6_copy_18 fl_6_10 sp_L rfl ?_
            refine g_iload_n d_X6_copy_21 rfl ?_
            refine h_V1i d_X6_copy_22 cl_6_85 (m_isMissing rfl hr) sp_Rows (by decide) rfl (Nat.le_of_ble_eq_true rfl) (by decide) ?_
            refine g_if_ne d_X6_copy_25 (fun c25 => absurd (by rw [mu_low (by decide), a3]; exact b2i_f (nI_ne_m1 (by omega))) c25) (fun c25 => ?_)
            refine g_aload_n d_X6_copy_28 rfl ?_
            refine h_getR d_X6_copy_29 fl_6_10 sp_L rfl ?_
            refine g_iload_n d_X6_copy_32 rfl ?_
            refine h_V1i d_X6_copy_33 cl_6_85 (m_isMissing rfl hq) sp_Rows (by decide) rfl (Nat.le_of_ble_eq_true rfl) (by decide) ?_
            refine g_if_eq d_X6_copy_36 (fun c36 => ?_) (fun c36 => absurd (by rw [mu_low (by decide), b3]; exact b2i_f (nI_ne_m1 (by omega))) c36)
            refine g_aload_n d_X6_copy_45 rfl ?_
            refine h_getR d_X6_copy_46 fl_6_10 sp_L rfl ?_
            refine h_getR d_X6_copy_49 fl_6_88 sp_Rows rfl ?_
            refine g_iload_n d_X6_copy_52 rfl ?_
            refine h_aldV (k := r) (v := nI ar) d_X6_copy_53 sp_lanes rfl (by omega) (by decide) ((mu_low (by decide)).trans a3) ?_
            refine g_aload_n d_X6_copy_54 rfl ?_
            refine h_getR d_X6_copy_55 fl_6_10 sp_L rfl ?_
            refine h_getR d_X6_copy_58 fl_6_88 sp_Rows rfl ?_
            refine g_iload_n d_X6_copy_61 rfl ?_
            refine h_aldV (k := q) (v := nI aq) d_X6_copy_62 sp_lanes rfl (by omega) (by decide) ((mu_low (by decide)).trans b3) ?_
            refine g_icmp_eq d_X6_copy_63 (fun c63 => absurd c63 (fun z => el (nI_inj z (by omega) (by omega)))) (fun c63 => ?_)
            refine g_aload_n d_X6_copy_66 rfl ?_
            refine g_iconst d_X6_copy_67 ik_5 ?_
            refine h_V1i d_X6_copy_68 cl_6_67 m6_found sp_L (by decide) rfl (Nat.le_of_ble_eq_true rfl) (by decide) ?_
            refine h_iret d_X6_copy_71 rfl ?_
            refine ⟨_, rfl, ?_⟩
            rw [mu_hset (by decide)]
            refine MtH.of [some (.ref 360), some (.int (nI r)), some (.int i), some (.int (nI q)), some (.int j), some (.int n), none, none, none, none] pl_X7 rfl rfl ?_
            refine g_aload_n d_X7_copy_0 rfl ?_
            refine g_iconst d_X7_copy_1 ik_0 ?_
            refine mm_putI d_X7_copy_2 fl_7_62 sp_M rfl ?_
            refine g_iload_n d_X7_copy_5 rfl ?_
            refine h_S1i d_X7_copy_6 cl_7_74 m7_isRow (Nat.le_of_ble_eq_true rfl) (by decide) ?_
            refine g_if_eq d_X7_copy_9 (fun c9 => ?_) (fun c9 => ?_)
            · exfalso
              simp only [b2i_eq0, b2i_ne0, Int32.lt_iff_toInt_lt, Int32.le_iff_toInt_le, t_0, t_1, t_2, t_3, t_4, t_5, t_6, t_7, t_8, t_9, t_10, t_11, t_12, t_20, t_24, t_40, t_50, t_60, t_99, t_110, t_255, t_999, t_999999, t_m1, er, eq] at *
              omega
            · refine g_iload_n d_X7_copy_12 rfl ?_
              refine h_S1i d_X7_copy_13 cl_7_74 m7_isRow (Nat.le_of_ble_eq_true rfl) (by decide) ?_
              refine g_if_ne d_X7_copy_16 (fun c16 => ?_) (fun c16 => ?_)
              · refine g_aload_n d_X7_copy_22 rfl ?_
                refine h_getR d_X7_copy_23 fl_7_16 sp_M rfl ?_
                refine g_iload_n d_X7_copy_26 rfl ?_
                refine mm_aldV (k := r) (v := nI mr) d_X7_copy_27 (j := 3) sp_m_rowSize rfl (by decide) rfl (by omega) (by decide) ((hs_j (by decide)).trans a6) ?_
                refine g_if_lt d_X7_copy_28 (fun c28 => absurd c28 (nI_pos (by omega))) (fun c28 => ?_)
                refine g_aload_n d_X7_copy_31 rfl ?_
                refine h_getR d_X7_copy_32 fl_7_16 sp_M rfl ?_
                refine g_iload_n d_X7_copy_35 rfl ?_
                refine mm_aldV (k := q) (v := nI mq) d_X7_copy_36 (j := 3) sp_m_rowSize rfl (by decide) rfl (by omega) (by decide) ((hs_j (by decide)).trans b6) ?_
                refine g_if_ge d_X7_copy_37 (fun c37 => ?_) (fun c37 => absurd (nI_le (a := 0) (b := mq) (by omega) (by omega)) c37)
                refine g_aload_n d_X7_copy_46 rfl ?_
                refine h_getR d_X7_copy_47 fl_7_13 sp_M rfl ?_
                refine g_iload_n d_X7_copy_50 rfl ?_
                refine mm_aldV (k := r) (v := nI ar) d_X7_copy_51 (j := 2) sp_m_lane rfl (by decide) rfl (by omega) (by decide) ((hs_j (by decide)).trans a4) ?_
                refine g_aload_n d_X7_copy_52 rfl ?_
                refine h_getR d_X7_copy_53 fl_7_13 sp_M rfl ?_
                refine g_iload_n d_X7_copy_56 rfl ?_
                refine mm_aldV (k := q) (v := nI aq) d_X7_copy_57 (j := 2) sp_m_lane rfl (by decide) rfl (by omega) (by decide) ((hs_j (by decide)).trans b4) ?_
                refine g_icmp_eq d_X7_copy_58 (fun c58 => absurd c58 (fun z => el (nI_inj z (by omega) (by omega)))) (fun c58 => ?_)
                refine g_aload_n d_X7_copy_61 rfl ?_
                refine g_iconst d_X7_copy_62 ik_5 ?_
                refine h_V1i d_X7_copy_63 cl_7_79 m7_found sp_M (by decide) rfl (Nat.le_of_ble_eq_true rfl) (by decide) ?_
                refine h_iret d_X7_copy_66 rfl ?_
                exact ⟨rfl, _, _, rfl, hR.stat 5⟩
              · exfalso
                simp only [b2i_eq0, b2i_ne0, Int32.lt_iff_toInt_lt, Int32.le_iff_toInt_le, t_0, t_1, t_2, t_3, t_4, t_5, t_6, t_7, t_8, t_9, t_10, t_11, t_12, t_20, t_24, t_40, t_50, t_60, t_99, t_110, t_255, t_999, t_999999, t_m1, er, eq] at *
                omega
    · refine g_ldc d_X6_copy_14 kc_X6_66 ?_
      refine h_iret d_X6_copy_16 rfl ?_
      refine ⟨_, rfl, ?_⟩
      refine MtH.of [some (.ref 360), some (.int x), some (.int i), some (.int u), some (.int j), some (.int n), none, none, none, none] pl_X7 rfl rfl ?_
      refine g_aload_n d_X7_copy_0 rfl ?_
      refine g_iconst d_X7_copy_1 ik_0 ?_
      refine mm_putI d_X7_copy_2 fl_7_62 sp_M rfl ?_
      refine g_iload_n d_X7_copy_5 rfl ?_
      refine h_S1i d_X7_copy_6 cl_7_74 m7_isRow (Nat.le_of_ble_eq_true rfl) (by decide) ?_
      refine g_if_eq d_X7_copy_9 (fun c9 => ?_) (fun c9 => ?_)
      · refine g_ldc d_X7_copy_19 kc_X7_78 ?_
        refine h_iret d_X7_copy_21 rfl ?_
        exact ⟨rfl, _, _, rfl, hR.fr fr_thrown⟩
      · refine g_iload_n d_X7_copy_12 rfl ?_
        refine h_S1i d_X7_copy_13 cl_7_74 m7_isRow (Nat.le_of_ble_eq_true rfl) (by decide) ?_
        refine g_if_ne d_X7_copy_16 (fun c16 => ?_) (fun c16 => ?_)
        · exfalso
          simp only [b2i_eq0, b2i_ne0, Int32.lt_iff_toInt_lt, Int32.le_iff_toInt_le, t_0, t_1, t_2, t_3, t_4, t_5, t_6, t_7, t_8, t_9, t_10, t_11, t_12, t_20, t_24, t_40, t_50, t_60, t_99, t_110, t_255, t_999, t_999999, t_m1] at *
          omega
        · refine g_ldc d_X7_copy_19 kc_X7_78 ?_
          refine h_iret d_X7_copy_21 rfl ?_
          exact ⟨rfl, _, _, rfl, hR.fr fr_thrown⟩

/-! OPS: copy -/
abbrev PL (i n : Int32) (m : Nat) : Prop := 0 ≤ i.toInt ∧ 0 ≤ n.toInt ∧ i.toInt + n.toInt ≤ m
theorem subI {m : Nat} {i : Int32} (hm : m ≤ 40) (h0 : 0 ≤ i.toInt) (h1 : i.toInt ≤ m) : (nI m - i).toInt = m - i.toInt := by
  obtain ⟨k, hk, rfl⟩ := rngI (x := i) (B := m + 1) h0 (by omega)
  rw [pk_sub (by omega), nI_toInt (by omega), nI_toInt (by omega)]
  omega
theorem pl_cls {i n : Int32} {m : Nat} (hm : m ≤ 40) : (¬ n < 0 ∧ ¬ nI m < n ∧ ¬ i < 0 ∧ ¬ nI m - n < i) ↔ PL i n m := by
  have em : (nI m).toInt = m := nI_toInt (by omega)
  simp only [Int32.lt_iff_toInt_lt, em, t_0]
  constructor
  · intro h
    have e := subI (m := m) (i := n) hm (by omega) (by omega)
    rw [e] at h
    exact ⟨by omega, by omega, by omega⟩
  · intro h
    obtain ⟨h1, h2, h3⟩ := h
    have e := subI (m := m) (i := n) hm (by omega) (by omega)
    rw [e]
    exact ⟨by omega, by omega, by omega, by omega⟩
theorem m7_isPart {h w : Hv} {x : Int32} {r m : Nat} (ex : x = nI r) (hr : r < 8) (hm3 : w 3 r = nI m) (hm : m ≤ 40) {i n : Int32} : MtF M_X7_isPart 1 [.ref 360, .int x, .int i, .int n] (mu h w) (some (.int (b2i (PL i n m)))) (mu h w) := by
  subst ex
  have em : (nI m).toInt = m := nI_toInt (by omega)
  refine MtF.of [some (.ref 360), some (.int (nI r)), some (.int i), some (.int n)] pl_X7 rfl rfl ?_
  refine g_iload_n d_X7_isPart_0 rfl ?_
  refine g_if_lt d_X7_isPart_1 (fun c1 => ?_) (fun c1 => ?_)
  · refine g_iconst d_X7_isPart_34 ik_0 ?_
    refine h_zret d_X7_isPart_35 rfl rfl ?_
    refine pF (congrArg (fun z => some (Value.int z)) ?_) rfl
    symm
    first
      | exact b2i_f (fun z => by have := z.2.1; simp only [Int32.lt_iff_toInt_lt, t_0] at c1; omega)
      | exact b2i_f (fun z => by obtain ⟨z1, z2, z3⟩ := z; simp only [b2i_eq0, Int32.lt_iff_toInt_lt, t_0, em] at c15; omega)
      | exact b2i_f (fun z => by obtain ⟨z1, z2, z3⟩ := z; have e := subI (m := m) (i := i) hm (by omega) (by omega); simp only [Int32.lt_iff_toInt_lt, e] at c27; omega)
      | exact b2i_t (by simp only [b2i_ne0, Int32.lt_iff_toInt_lt, t_0, em] at c1 c15; have e := subI (m := m) (i := i) hm (by omega) (by omega); simp only [Int32.lt_iff_toInt_lt, e] at c27; exact ⟨by omega, by omega, by omega⟩)
  · refine g_iload_n d_X7_isPart_4 rfl ?_
    refine g_iconst d_X7_isPart_5 ik_0 ?_
    refine g_aload_n d_X7_isPart_6 rfl ?_
    refine h_getR d_X7_isPart_7 fl_7_16 sp_M rfl ?_
    refine g_iload_n d_X7_isPart_10 rfl ?_
    refine mm_aldV (k := r) (v := nI m) d_X7_isPart_11 (j := 3) sp_m_rowSize rfl (by decide) rfl (by omega) (by decide) (hm3) ?_
    refine h_S3i d_X7_isPart_12 cl_7_70 m7_in (Nat.le_of_ble_eq_true rfl) (by decide) ?_
    refine g_if_eq d_X7_isPart_15 (fun c15 => ?_) (fun c15 => ?_)
    · refine g_iconst d_X7_isPart_34 ik_0 ?_
      refine h_zret d_X7_isPart_35 rfl rfl ?_
      refine pF (congrArg (fun z => some (Value.int z)) ?_) rfl
      symm
      first
        | exact b2i_f (fun z => by have := z.2.1; simp only [Int32.lt_iff_toInt_lt, t_0] at c1; omega)
        | exact b2i_f (fun z => by obtain ⟨z1, z2, z3⟩ := z; simp only [b2i_eq0, Int32.lt_iff_toInt_lt, t_0, em] at c15; omega)
        | exact b2i_f (fun z => by obtain ⟨z1, z2, z3⟩ := z; have e := subI (m := m) (i := i) hm (by omega) (by omega); simp only [Int32.lt_iff_toInt_lt, e] at c27; omega)
        | exact b2i_t (by simp only [b2i_ne0, Int32.lt_iff_toInt_lt, t_0, em] at c1 c15; have e := subI (m := m) (i := i) hm (by omega) (by omega); simp only [Int32.lt_iff_toInt_lt, e] at c27; exact ⟨by omega, by omega, by omega⟩)
    · refine g_iload_n d_X7_isPart_18 rfl ?_
      refine g_aload_n d_X7_isPart_19 rfl ?_
      refine h_getR d_X7_isPart_20 fl_7_16 sp_M rfl ?_
      refine g_iload_n d_X7_isPart_23 rfl ?_
      refine mm_aldV (k := r) (v := nI m) d_X7_isPart_24 (j := 3) sp_m_rowSize rfl (by decide) rfl (by omega) (by decide) (hm3) ?_
      refine g_iload_n d_X7_isPart_25 rfl ?_
      refine g_isub d_X7_isPart_26 ?_
      refine g_icmp_gt d_X7_isPart_27 (fun c27 => ?_) (fun c27 => ?_)
      · refine g_iconst d_X7_isPart_34 ik_0 ?_
        refine h_zret d_X7_isPart_35 rfl rfl ?_
        refine pF (congrArg (fun z => some (Value.int z)) ?_) rfl
        symm
        first
          | exact b2i_f (fun z => by have := z.2.1; simp only [Int32.lt_iff_toInt_lt, t_0] at c1; omega)
          | exact b2i_f (fun z => by obtain ⟨z1, z2, z3⟩ := z; simp only [b2i_eq0, Int32.lt_iff_toInt_lt, t_0, em] at c15; omega)
          | exact b2i_f (fun z => by obtain ⟨z1, z2, z3⟩ := z; have e := subI (m := m) (i := i) hm (by omega) (by omega); simp only [Int32.lt_iff_toInt_lt, e] at c27; omega)
          | exact b2i_t (by simp only [b2i_ne0, Int32.lt_iff_toInt_lt, t_0, em] at c1 c15; have e := subI (m := m) (i := i) hm (by omega) (by omega); simp only [Int32.lt_iff_toInt_lt, e] at c27; exact ⟨by omega, by omega, by omega⟩)
      · refine g_iconst d_X7_isPart_30 ik_1 ?_
        refine g_goto d_X7_isPart_31 ?_
        refine h_zret d_X7_isPart_35 rfl rfl ?_
        refine pF (congrArg (fun z => some (Value.int z)) ?_) rfl
        symm
        first
          | exact b2i_f (fun z => by have := z.2.1; simp only [Int32.lt_iff_toInt_lt, t_0] at c1; omega)
          | exact b2i_f (fun z => by obtain ⟨z1, z2, z3⟩ := z; simp only [b2i_eq0, Int32.lt_iff_toInt_lt, t_0, em] at c15; omega)
          | exact b2i_f (fun z => by obtain ⟨z1, z2, z3⟩ := z; have e := subI (m := m) (i := i) hm (by omega) (by omega); simp only [Int32.lt_iff_toInt_lt, e] at c27; omega)
          | exact b2i_t (by simp only [b2i_ne0, Int32.lt_iff_toInt_lt, t_0, em] at c1 c15; have e := subI (m := m) (i := i) hm (by omega) (by omega); simp only [Int32.lt_iff_toInt_lt, e] at c27; exact ⟨by omega, by omega, by omega⟩)
theorem m_places {h : Hv} {x : Int32} {r m : Nat} (ex : x = nI r) (hr : r < 8) (h3 : h 3 r = nI m) (hm : m ≤ 40) {i n : Int32} : MtF M_X4_hasPlaces 0 [.ref 1, .int x, .int i, .int n] h (some (.int (b2i (PL i n m)))) h := by
  have z := m_hasPlaces (h := h) ex hr (i := i) (n := n)
  rw [h3, b2i_congr (pl_cls hm)] at z
  exact z
def upW (w : Hv) (s t k : Nat) : Hv := hcpy w 1 1 s t k
def dnW (w : Hv) (s t n k : Nat) : Hv := fun x y => if x = 1 ∧ t + n - k ≤ y ∧ y < t + n then w 1 (s + (y - t)) else w x y
theorem up_0 {w : Hv} {s t : Nat} : upW w s t 0 = w := by funext x y; exact if_neg (by omega)
theorem up_s {w : Hv} {s t k : Nat} (h : t ≤ s) : upW w s t (k + 1) = hset (upW w s t k) 1 (t + k) (upW w s t k 1 (s + k)) := by
  funext x y
  unfold upW hcpy hset
  dsimp only
  rw [if_neg (c := 1 = 1 ∧ t ≤ s + k ∧ s + k < t + k) (by omega)]
  by_cases h1 : x = 1 ∧ y = t + k
  · rw [if_pos h1, if_pos (by omega), show s + (y - t) = s + k by omega]
  · rw [if_neg h1]
    by_cases h2 : x = 1 ∧ t ≤ y ∧ y < t + k
    · rw [if_pos h2, if_pos (by omega)]
    · rw [if_neg h2, if_neg (by omega)]
theorem dn_0 {w : Hv} {s t n : Nat} : dnW w s t n 0 = w := by funext x y; exact if_neg (by omega)
theorem dn_s {w : Hv} {s t n k : Nat} (h : s < t) (hk : k < n) : dnW w s t n (k + 1) = hset (dnW w s t n k) 1 (t + (n - 1 - k)) (dnW w s t n k 1 (s + (n - 1 - k))) := by
  funext x y
  unfold dnW hset
  dsimp only
  rw [if_neg (c := 1 = 1 ∧ t + n - k ≤ s + (n - 1 - k) ∧ s + (n - 1 - k) < t + n) (by omega)]
  by_cases h1 : x = 1 ∧ y = t + (n - 1 - k)
  · rw [if_pos h1, if_pos (by omega), show s + (y - t) = s + (n - 1 - k) by omega]
  · rw [if_neg h1]
    by_cases h2 : x = 1 ∧ t + n - k ≤ y ∧ y < t + n
    · rw [if_pos h2, if_pos (by omega)]
    · rw [if_neg h2, if_neg (by omega)]
theorem dn_n {w : Hv} {s t n : Nat} : dnW w s t n n = hcpy w 1 1 s t n := by
  funext x y
  unfold dnW hcpy
  rw [Nat.add_sub_cancel]
theorem mu_cpy {h w : Hv} {a b s t n : Nat} (ha : a < 360) (hb : b < 360) : hcpy (mu h w) a b s t n = mu (hcpy h a b s t n) w := by
  funext x y
  unfold hcpy
  rw [mu_low ha]
  unfold mu blk
  dsimp only
  by_cases h1 : x = b ∧ t ≤ y ∧ y < t + n
  · rw [if_pos h1, if_neg (by omega), if_pos h1]
  · rw [if_neg h1]
    by_cases h2 : 360 ≤ x ∧ x < 360 + 18
    · rw [if_pos h2, if_pos h2]
    · rw [if_neg h2, if_neg h2, if_neg h1]
theorem cp_o {h : Hv} {a b s t n x y : Nat} (hx : ¬ (x = b ∧ t ≤ y ∧ y < t + n)) : hcpy h a b s t n x y = h x y := if_neg hx
theorem rel_copy {h w : Hv} (hR : RelP h w) {r q i j n nr nq : Nat} (hr : r < 8) (hq : q < 8) (er : w 3 r = nI nr) (hnr : nr ≤ 40) (eq : w 3 q = nI nq) (hnq : nq ≤ 40) (hi : i + n ≤ nr) (hj : j + n ≤ nq) : RelP (hset (hcpy h (5 + r) (5 + q) i j n) 0 9 0) (hset (hcpy (hset w 0 0 0) 1 1 (40 * r + i) (40 * q + j) n) 0 4 0) := by
  refine hR.rows (fun x y p z => ?_) (fun x y p z => ?_) ?_ (fun p hp => ?_)
  · rw [hs_ne p, cp_o (by omega)]
  · rw [hs_ne (by omega), cp_o (by omega), hs_ne (by omega)]
  · unfold RStat; rw [hs_at, hs_at]
  · rcases hR.2.1 r hr with ⟨z1, z2⟩ | ⟨ar, mr, a1, a2, a3, a4, a5, a6, a7⟩
    · exact absurd (z2.symm.trans er).symm (nI_ne_m1 (by omega))
    · have emr : mr = nr := nI_inj (a6.symm.trans er) (by omega) (by omega)
      subst emr
      by_cases e : p = q
      · subst e
        rcases hR.2.1 p hp with ⟨z1, z2⟩ | ⟨aq, mq, b1, b2, b3, b4, b5, b6, b7⟩
        · exact absurd (z2.symm.trans eq).symm (nI_ne_m1 (by omega))
        · refine Or.inr ⟨aq, mq, b1, b2, ?_, ?_, ?_, ?_, fun i' hi' => ?_⟩
          · rw [hs_j (by decide), cp_o (by omega)]; exact b3
          · rw [hs_j (by decide), cp_o (by omega), hs_j (by decide)]; exact b4
          · rw [hs_j (by decide), cp_o (by omega)]; exact b5
          · rw [hs_j (by decide), cp_o (by omega), hs_j (by decide)]; exact b6
          · rw [hs_j (j := 0) (x := 5 + p) (by omega), hs_j (j := 0) (x := 1) (b := 4) (by decide)]
            by_cases e2 : j ≤ i' ∧ i' < j + n
            · unfold hcpy
              rw [if_pos ⟨rfl, e2⟩, if_pos ⟨rfl, by omega, by omega⟩, hs_j (by decide), a7 _ (by omega)]
              congr 1
              omega
            · rw [cp_o (fun z => e2 z.2), cp_o (by omega), hs_j (by decide)]; exact b7 i' hi'
      · refine (hR.2.1 p hp).cg ?_ ?_ (fun i' hi' => ?_) ?_ ?_ (fun i' hi' => ?_)
        · rw [hs_j (by decide), cp_o (by omega)]
        · rw [hs_j (by decide), cp_o (by omega)]
        · rw [hs_j (by omega), cp_o (by omega)]
        · rw [hs_j (by decide), cp_o (by omega), hs_j (by decide)]
        · rw [hs_j (by decide), cp_o (by omega), hs_j (by decide)]
        · rw [hs_j (by decide), cp_o (by omega), hs_j (by decide)]
theorem lp_copyU {h w : Hv} {s t m : Nat} (hs : s + m ≤ 320) (ht : t + m ≤ 320) {x1 x2 x3 x4 : Int32} (hst : t ≤ s) {P : Option Value → Hv → Prop} (kx : ∀ y, GdH M_X7_copy 2 170 [some (.ref 360), some (.int x1), some (.int x2), some (.int x3), some (.int x4), some (.int (nI m)), some (.int (nI s)), some (.int (nI t)), some (.int (nI m)), y] [] (mu h (upW w s t m)) P) : ∀ (n j : Nat), j + n = m → ∀ y : Option Value, GdH M_X7_copy 2 116 [some (.ref 360), some (.int x1), some (.int x2), some (.int x3), some (.int x4), some (.int (nI m)), some (.int (nI s)), some (.int (nI t)), some (.int (nI j)), y] [] (mu h (upW w s t j)) P := by
  intro n
  induction n with
  | zero =>
    intro j hj y
    have hj' : j = m := by omega
    rw [hj']
    refine g_iload d_X7_copy_116 rfl ?_
    refine g_iload d_X7_copy_118 rfl ?_
    refine g_icmp_ge d_X7_copy_120 (fun c120 => ?_) (fun c120 => absurd (nI_le (a := m) (b := m) (Nat.le_refl _) (by omega)) c120)
    exact kx y
  | succ n ih =>
    intro j hj y
    refine g_iload d_X7_copy_116 rfl ?_
    refine g_iload d_X7_copy_118 rfl ?_
    refine g_icmp_ge d_X7_copy_120 (fun c120 => absurd c120 (nI_ge (a := j) (b := m) (by omega) (by omega))) (fun c120 => ?_)
    refine g_iload d_X7_copy_123 rfl ?_
    refine g_iload d_X7_copy_125 rfl ?_
    refine g_icmp_le d_X7_copy_127 (fun c127 => ?_) (fun c127 => absurd (nI_le (a := t) (b := s) hst (by omega)) c127)
    refine g_iload d_X7_copy_140 rfl ?_
    refine w_istore (L' := [_, _, _, _, _, _, _, _, _, _]) d_X7_copy_142 rfl rfl rfl ?_
    refine g_aload_n d_X7_copy_144 rfl ?_
    refine h_getR d_X7_copy_145 fl_7_7 sp_M rfl ?_
    refine g_iload d_X7_copy_148 rfl ?_
    refine g_iload d_X7_copy_150 rfl ?_
    refine g_iadd d_X7_copy_152 ?_
    refine g_aload_n d_X7_copy_153 rfl ?_
    refine h_getR d_X7_copy_154 fl_7_7 sp_M rfl ?_
    refine g_iload d_X7_copy_157 rfl ?_
    refine g_iload d_X7_copy_159 rfl ?_
    refine g_iadd d_X7_copy_161 ?_
    refine mm_aldE (k := (s + j)) d_X7_copy_162 (j := 1) sp_m_rows rfl (by decide) (nAdd rfl rfl) (by omega) (by decide) ?_
    refine mm_astE (k := (t + j)) d_X7_copy_163 (j := 1) sp_m_rows rfl (by decide) (nAdd rfl rfl) (by omega) (by decide) ?_
    refine w_iinc (L' := [_, _, _, _, _, _, _, _, _, _]) d_X7_copy_164 ik_1 rfl rfl rfl rfl ?_
    refine g_goto d_X7_copy_167 ?_
    have q := ih (j + 1) (by omega) (some (.int (nI j)))
    rw [up_s hst] at q
    rw [nI_1]
    exact q
theorem lp_copyD {h w : Hv} {s t m : Nat} (hs : s + m ≤ 320) (ht : t + m ≤ 320) {x1 x2 x3 x4 : Int32} (hst : s < t) {P : Option Value → Hv → Prop} (kx : ∀ y, GdH M_X7_copy 2 170 [some (.ref 360), some (.int x1), some (.int x2), some (.int x3), some (.int x4), some (.int (nI m)), some (.int (nI s)), some (.int (nI t)), some (.int (nI m)), y] [] (mu h (dnW w s t m m)) P) : ∀ (n j : Nat), j + n = m → ∀ y : Option Value, GdH M_X7_copy 2 116 [some (.ref 360), some (.int x1), some (.int x2), some (.int x3), some (.int x4), some (.int (nI m)), some (.int (nI s)), some (.int (nI t)), some (.int (nI j)), y] [] (mu h (dnW w s t m j)) P := by
  intro n
  induction n with
  | zero =>
    intro j hj y
    have hj' : j = m := by omega
    rw [hj']
    refine g_iload d_X7_copy_116 rfl ?_
    refine g_iload d_X7_copy_118 rfl ?_
    refine g_icmp_ge d_X7_copy_120 (fun c120 => ?_) (fun c120 => absurd (nI_le (a := m) (b := m) (Nat.le_refl _) (by omega)) c120)
    exact kx y
  | succ n ih =>
    intro j hj y
    have en : nI m - 1 - nI j = nI (m - 1 - j) := by rw [show (1 : Int32) = nI 1 from rfl, pk_sub (by omega), pk_sub (by omega)]
    refine g_iload d_X7_copy_116 rfl ?_
    refine g_iload d_X7_copy_118 rfl ?_
    refine g_icmp_ge d_X7_copy_120 (fun c120 => absurd c120 (nI_ge (a := j) (b := m) (by omega) (by omega))) (fun c120 => ?_)
    refine g_iload d_X7_copy_123 rfl ?_
    refine g_iload d_X7_copy_125 rfl ?_
    refine g_icmp_le d_X7_copy_127 (fun c127 => absurd c127 (nI_ge (a := s) (b := t) hst (by omega))) (fun c127 => ?_)
    refine g_iload d_X7_copy_130 rfl ?_
    refine g_iconst d_X7_copy_132 ik_1 ?_
    refine g_isub d_X7_copy_133 ?_
    refine g_iload d_X7_copy_134 rfl ?_
    refine g_isub d_X7_copy_136 ?_
    refine g_goto d_X7_copy_137 ?_
    refine w_istore (L' := [_, _, _, _, _, _, _, _, _, _]) d_X7_copy_142 rfl rfl rfl ?_
    refine g_aload_n d_X7_copy_144 rfl ?_
    refine h_getR d_X7_copy_145 fl_7_7 sp_M rfl ?_
    refine g_iload d_X7_copy_148 rfl ?_
    refine g_iload d_X7_copy_150 rfl ?_
    refine g_iadd d_X7_copy_152 ?_
    refine g_aload_n d_X7_copy_153 rfl ?_
    refine h_getR d_X7_copy_154 fl_7_7 sp_M rfl ?_
    refine g_iload d_X7_copy_157 rfl ?_
    refine g_iload d_X7_copy_159 rfl ?_
    refine g_iadd d_X7_copy_161 ?_
    refine mm_aldE (k := (s + (m - 1 - j))) d_X7_copy_162 (j := 1) sp_m_rows rfl (by decide) (nAdd rfl en) (by omega) (by decide) ?_
    refine mm_astE (k := (t + (m - 1 - j))) d_X7_copy_163 (j := 1) sp_m_rows rfl (by decide) (nAdd rfl en) (by omega) (by decide) ?_
    refine w_iinc (L' := [_, _, _, _, _, _, _, _, _, _]) d_X7_copy_164 ik_1 rfl rfl rfl rfl ?_
    refine g_goto d_X7_copy_167 ?_
    have q := ih (j + 1) (by omega) (some (.int (nI m - 1 - nI j)))
    rw [dn_s hst (by omega)] at q
    rw [nI_1]
    exact q

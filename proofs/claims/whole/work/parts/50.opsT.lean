/-! OPS: breaks -/
abbrev subB (b o : Nat) : Prop := nI b &&& (nI o ^^^ (-1)) = 0
theorem bitT : ∀ x, x < 32 → ∀ m, m < 5 → (nI x >>> (nI m &&& 31) &&& 1 = 1 ↔ x / 2 ^ m % 2 = 1) := by decide +kernel
theorem subT1 : ∀ M, M ≤ 5 → ∀ o, o < 2 ^ M → ∀ s, s < 2 ^ M → subB s o → nI o &&& (nI s ^^^ (-1)) = nI (o ^^^ s) := by decide +kernel
theorem subT2 : ∀ M, M ≤ 5 → ∀ o, o < 2 ^ M → ∀ s, s < 2 ^ M → subB s o → o ^^^ s < 2 ^ M := by decide +kernel
theorem subT3 : ∀ M, M ≤ 5 → ∀ o, o < 2 ^ M → ∀ s, s < 2 ^ M → subB s o → subB (o ^^^ s) o := by decide +kernel
theorem subT4 : ∀ M, M ≤ 5 → ∀ o, o < 2 ^ M → ∀ s, s < 2 ^ M → subB s o → popN s ≤ popN o := by decide +kernel
def ciN (o b : Nat) : Nat → Nat
  | 0 => 0
  | m + 1 => ciN o b m + (if o / 2 ^ m % 2 = 1 ∧ b / 2 ^ m % 2 = 1 then 1 else 0)
def cjN (o b : Nat) : Nat → Nat
  | 0 => 0
  | m + 1 => cjN o b m + (if o / 2 ^ m % 2 = 1 ∧ ¬ b / 2 ^ m % 2 = 1 then 1 else 0)
theorem cT : ∀ M, M ≤ 5 → ∀ o, o < 2 ^ M → ∀ s, s < 2 ^ M → subB s o → ciN o (o ^^^ s) M = popN o - popN s ∧ cjN o (o ^^^ s) M = popN s := by decide +kernel
def subL (M o : Nat) : List Nat := (List.range (2 ^ M)).filter (fun b => decide (subB b o))
theorem permT : ∀ M, M ≤ 5 → ∀ o, o < 2 ^ M → List.Perm (subL M o) ((subL M o).map (fun s => o ^^^ s)) := by unfold subL; decide +kernel
def csN (o b p : Nat) : Nat → Nat
  | 0 => 1
  | m + 1 => if o / 2 ^ m % 2 = 1 then csN o b p m * (if b / 2 ^ m % 2 = 1 then 10 - p else p) else csN o b p m
theorem csN_eq {o b p : Nat} : ∀ m, csN o b p m = (10 - p) ^ ciN o b m * p ^ cjN o b m
  | 0 => rfl
  | m + 1 => by
    rw [csN, ciN, cjN, csN_eq m]
    by_cases h1 : o / 2 ^ m % 2 = 1
    · by_cases h2 : b / 2 ^ m % 2 = 1
      · rw [if_pos h1, if_pos h2, if_pos ⟨h1, h2⟩, if_neg (fun q => q.2 h2), Nat.pow_succ, Nat.add_zero, Nat.mul_right_comm]
      · rw [if_pos h1, if_neg h2, if_neg (fun q => h2 q.2), if_pos ⟨h1, h2⟩, Nat.pow_succ, Nat.add_zero, Nat.mul_assoc]
    · rw [if_neg h1, if_neg (fun q => h1 q.1), if_neg (fun q => h1 q.1), Nat.add_zero, Nat.add_zero]
theorem csN_le {o b p : Nat} (hp : p ≤ 10) : ∀ m, csN o b p m ≤ 10 ^ m
  | 0 => Nat.le_refl 1
  | m + 1 => by
    have ih := csN_le (o := o) (b := b) hp m
    rw [csN, Nat.pow_succ]
    split
    · exact Nat.mul_le_mul ih (by split <;> omega)
    · omega
def smN (F : Nat → Nat) : Nat → Nat
  | 0 => 0
  | b + 1 => smN F b + F b
theorem smN_le {F : Nat → Nat} {B : Nat} (h : ∀ b, F b ≤ B) : ∀ n, smN F n ≤ n * B
  | 0 => by rw [Nat.zero_mul]; exact Nat.le_refl 0
  | n + 1 => by
    have := smN_le h n
    have := h n
    rw [smN, Nat.succ_mul]
    omega
theorem smN_fl {f : Nat → Nat} {q : Nat → Bool} : ∀ n, smN (fun b => if q b = true then f b else 0) n = (((List.range n).filter q).map f).sum
  | 0 => rfl
  | n + 1 => by
    rw [smN, smN_fl n, List.range_succ, List.filter_append, List.map_append, List.sum_append]
    by_cases h : q n = true
    · simp [h]
    · simp [h]
/-- the cases in which a load is dry, by what stays open -/
def brF (M N n l o p : Nat) (g : Hv) (b : Nat) : Nat := if subB b o then (if tickN M N n (hset g 0 4 (nI b)) 9 l = 2 then csN o b p M else 0) else 0
/-- and by what breaks -/
def brR (M N n l o p : Nat) (g : Hv) (s : Nat) : Nat := if subB s o then (if tickN M N n (hset g 0 4 (nI (o ^^^ s))) 9 l = 2 then p ^ popN s * (10 - p) ^ (popN o - popN s) else 0) else 0
theorem br_eq {M N n l o p : Nat} {g : Hv} (hM : M ≤ 5) (ho : o < 2 ^ M) : smN (brR M N n l o p g) (2 ^ M) = smN (brF M N n l o p g) (2 ^ M) := by
  have e1 : smN (brF M N n l o p g) (2 ^ M) = ((subL M o).map (fun b => if tickN M N n (hset g 0 4 (nI b)) 9 l = 2 then csN o b p M else 0)).sum := by
    rw [subL, ← smN_fl]
    congr 1
    funext b
    unfold brF
    by_cases h : subB b o
    · rw [if_pos h, if_pos (decide_eq_true h)]
    · rw [if_neg h, if_neg (by rw [decide_eq_false h]; exact Bool.false_ne_true)]
  have e2 : smN (brR M N n l o p g) (2 ^ M) = ((subL M o).map (fun s => if tickN M N n (hset g 0 4 (nI (o ^^^ s))) 9 l = 2 then p ^ popN s * (10 - p) ^ (popN o - popN s) else 0)).sum := by
    rw [subL, ← smN_fl]
    congr 1
    funext b
    unfold brR
    by_cases h : subB b o
    · rw [if_pos h, if_pos (decide_eq_true h)]
    · rw [if_neg h, if_neg (by rw [decide_eq_false h]; exact Bool.false_ne_true)]
  have hp := List.Perm.sum_nat ((permT M hM o ho).map (fun b => if tickN M N n (hset g 0 4 (nI b)) 9 l = 2 then csN o b p M else 0))
  rw [e1, e2, hp, List.map_map]
  refine congrArg List.sum (List.map_congr_left (fun s hs => ?_))
  unfold subL at hs
  rw [List.mem_filter, List.mem_range] at hs
  have hsub : subB s o := of_decide_eq_true hs.2
  obtain ⟨c1, c2⟩ := cT M hM o ho s hs.1 hsub
  show _ = (if tickN M N n (hset g 0 4 (nI (o ^^^ s))) 9 l = 2 then csN o (o ^^^ s) p M else 0)
  rw [csN_eq, c1, c2, Nat.mul_comm]
theorem brF_le {M N n l o p : Nat} {g : Hv} (hp : p ≤ 10) (hM : M ≤ 5) (b : Nat) : brF M N n l o p g b ≤ 100000 := by
  have h1 := csN_le (o := o) (b := b) hp M
  have h2 : 10 ^ M ≤ 10 ^ 5 := Nat.pow_le_pow_right (by decide) hM
  unfold brF
  split
  · split
    · omega
    · omega
  · omega
def dnN (o : Nat) : Nat → Nat
  | 0 => 1
  | m + 1 => dnN o m * (if o / 2 ^ m % 2 = 1 then 10 else 1)
theorem dnT : ∀ M, M ≤ 5 → ∀ o, o < 2 ^ M → dnN o M = 10 ^ popN o ∧ 1 ≤ dnN o M ∧ dnN o M ≤ 100000 := by decide +kernel
/-! longs compared -/
theorem cmp0 {a : Nat} (h : a < 2 ^ 63) : (lg_cmp (lI a) 0 ≤ 0 ↔ a = 0) ∧ (lg_cmp (lI a) 0 = 0 ↔ a = 0) := by
  have e : (lI a).toInt = a := lI_toInt h
  have e0 : (0 : Int64).toInt = 0 := by decide
  unfold lg_cmp
  by_cases z : a = 0
  · subst z
    decide
  · have h1 : lI a > 0 := by
      show (0 : Int64) < lI a
      rw [Int64.lt_iff_toInt_lt, e, e0]
      omega
    rw [if_pos h1]
    exact ⟨⟨fun q => absurd q (by decide), fun q => absurd q z⟩, ⟨fun q => absurd q (by decide), fun q => absurd q z⟩⟩
theorem lI_eq0 {a : Nat} (h : a < 2 ^ 63) : lI a = 0 ↔ a = 0 := by
  refine ⟨fun z => ?_, fun z => by rw [z]; rfl⟩
  have := congrArg Int64.toInt z
  rw [lI_toInt h] at this
  have e0 : (0 : Int64).toInt = 0 := by decide
  rw [e0] at this
  omega
theorem lI_lt1 {a : Nat} (h : a < 2 ^ 63) (h1 : 1 ≤ a) : ¬ lI a < 1 := by
  rw [Int64.lt_iff_toInt_lt, lI_toInt h]
  have e0 : (1 : Int64).toInt = 1 := by decide
  rw [e0]
  omega
/-! the greatest divisor -/
def gdC : Nat → Nat → Nat → Nat
  | 0, a, _ => a
  | s + 1, a, b => if b = 0 then a else gdC s b (a % b)
theorem gdC_eq : ∀ (k s a b : Nat), 2 * k + 1 ≤ s → b < 2 ^ k → gdC s a b = Nat.gcd b a
  | 0, s, a, b, hs, hb => by
    have hb0 : b = 0 := by simpa using hb
    subst hb0
    obtain ⟨s', rfl⟩ : ∃ s', s = s' + 1 := ⟨s - 1, by omega⟩
    rw [gdC, if_pos rfl, Nat.gcd_zero_left]
  | k + 1, s, a, b, hs, hb => by
    obtain ⟨s', rfl⟩ : ∃ s', s = s' + 2 := ⟨s - 2, by omega⟩
    rw [gdC]
    by_cases hb0 : b = 0
    · rw [if_pos hb0, hb0, Nat.gcd_zero_left]
    · rw [if_neg hb0, gdC]
      have hr : a % b < b := Nat.mod_lt a (by omega)
      by_cases hr0 : a % b = 0
      · rw [if_pos hr0, Nat.gcd_rec, hr0, Nat.gcd_zero_left]
      · rw [if_neg hr0]
        have h1 : b % (a % b) < a % b := Nat.mod_lt b (by omega)
        have h2 : b % (a % b) + a % b ≤ b := by
          have e := Nat.div_add_mod b (a % b)
          have q : 1 ≤ b / (a % b) := (Nat.one_le_div_iff (by omega)).mpr (by omega)
          have q2 : a % b * 1 ≤ a % b * (b / (a % b)) := Nat.mul_le_mul_left _ q
          omega
        rw [gdC_eq k s' (a % b) (b % (a % b)) (by omega) (by rw [Nat.pow_succ] at hb; omega), ← Nat.gcd_rec, ← Nat.gcd_rec]
theorem p_isOpenO {H : Hv} {b : Nat} (ho : H 15 4 = nI b) {m : Int32} : MtF M_X2_isOpen 0 [.ref 15, .int m] H (some (.int (b2i (nI b >>> (m &&& 31) &&& 1 = 1)))) H := by
  have q := m_isOpen (h := H) (g := vw H 15) hall_15 (m := m)
  rw [pu_vw, show vw H 15 0 4 = H 15 4 from rfl, ho] at q
  exact q
theorem ten_sub {p : Nat} (hp : p ≤ 10) : ((10 : Int32) - nI p).toInt64 = lI (10 - p) := by
  rw [show (10 : Int32) - nI p = nI (10 - p) from pk_sub (a := 10) hp, lI_i2 (by omega)]
def OPL (X Y : Meth) (d d' : Nat) (args : List Value) (H : Hv) : Prop := MtH X d (.ref 0 :: args) H (fun v h' => ∃ r, v = some (.long r) ∧ MtH Y d' (.ref 360 :: args) h' (fun v' h'' => v' = some (.long r) ∧ Rel h''))
theorem lp_cases {H : Hv} {M a b p : Nat} (hM : H 15 2 = nI M) (hM5 : M ≤ 5) (ho : H 15 4 = nI a) (ha : a < 2 ^ M) (hb : b < 2 ^ M) (hp : p ≤ 10) {P : Option Value → Hv → Prop} (kx : GdH M_X6_casesOfStayingOpen 1 74 [some (.ref 0), some (.int (nI b)), some (.int (nI p)), some (.long (lI (csN a b p M))), none, some (.int (nI M))] [] (H) P) : ∀ (n j : Nat), j + n = M → GdH M_X6_casesOfStayingOpen 1 21 [some (.ref 0), some (.int (nI b)), some (.int (nI p)), some (.long (lI (csN a b p j))), none, some (.int (nI j))] [] (H) P := by
  intro n
  induction n with
  | zero =>
    intro j hj
    have h32 := pow5 hM5
    have hj' : j = M := by omega
    rw [hj']
    refine g_iload d_X6_casesOfStayingOpen_21 rfl ?_
    refine g_aload_n d_X6_casesOfStayingOpen_23 rfl ?_
    refine h_getR d_X6_casesOfStayingOpen_24 fl_6_26 sp_L rfl ?_
    refine h_getV (v := nI M) d_X6_casesOfStayingOpen_27 fl_6_132 (sp_hall hall_15) rfl (hM) ?_
    refine g_icmp_ge d_X6_casesOfStayingOpen_30 (fun c30 => ?_) (fun c30 => absurd (nI_le (a := M) (b := M) (Nat.le_refl _) (by omega)) c30)
    exact kx
  | succ n ih =>
    intro j hj
    have h32 := pow5 hM5
    refine g_iload d_X6_casesOfStayingOpen_21 rfl ?_
    refine g_aload_n d_X6_casesOfStayingOpen_23 rfl ?_
    refine h_getR d_X6_casesOfStayingOpen_24 fl_6_26 sp_L rfl ?_
    refine h_getV (v := nI M) d_X6_casesOfStayingOpen_27 fl_6_132 (sp_hall hall_15) rfl (hM) ?_
    refine g_icmp_ge d_X6_casesOfStayingOpen_30 (fun c30 => absurd c30 (nI_ge (a := j) (b := M) (by omega) (by omega))) (fun c30 => ?_)
    refine g_aload_n d_X6_casesOfStayingOpen_33 rfl ?_
    refine h_getR d_X6_casesOfStayingOpen_34 fl_6_26 sp_L rfl ?_
    refine g_iload d_X6_casesOfStayingOpen_37 rfl ?_
    refine h_V1i d_X6_casesOfStayingOpen_39 cl_6_177 (p_isOpenO ho) (sp_hall hall_15) (by decide) rfl (Nat.le_of_ble_eq_true rfl) (by decide) ?_
    refine g_if_eq d_X6_casesOfStayingOpen_42 (fun c42 => ?_) (fun c42 => ?_)
    · refine w_iinc (L' := [_, _, _, _, _, _]) d_X6_casesOfStayingOpen_68 ik_1 rfl rfl rfl rfl ?_
      refine g_goto d_X6_casesOfStayingOpen_71 ?_
      have q := ih (j + 1) (by omega)
      first | rw [csN, if_neg (fun z => b2i_eq0.mp c42 ((bitT a (by omega) j (by omega)).mpr z))] at q | rw [csN, if_pos ((bitT a (by omega) j (by omega)).mp (b2i_ne0.mp c42)), if_pos ((bitT b (by omega) j (by omega)).mp c53)] at q | rw [csN, if_pos ((bitT a (by omega) j (by omega)).mp (b2i_ne0.mp c42)), if_neg (fun z => c53 ((bitT b (by omega) j (by omega)).mpr z))] at q
      rw [nI_1]
      exact q
    · refine g_lload_n d_X6_casesOfStayingOpen_45 rfl ?_
      refine g_iload_n d_X6_casesOfStayingOpen_46 rfl ?_
      refine g_iload d_X6_casesOfStayingOpen_47 rfl ?_
      refine g_ishr d_X6_casesOfStayingOpen_49 ?_
      refine g_iconst d_X6_casesOfStayingOpen_50 ik_1 ?_
      refine g_iand d_X6_casesOfStayingOpen_51 ?_
      refine g_iconst d_X6_casesOfStayingOpen_52 ik_1 ?_
      refine g_icmp_ne d_X6_casesOfStayingOpen_53 (fun c53 => ?_) (fun c53 => ?_)
      · refine g_iload_n d_X6_casesOfStayingOpen_64 rfl ?_
        refine g_i2l d_X6_casesOfStayingOpen_65 ?_
        refine g_lmul d_X6_casesOfStayingOpen_66 ?_
        rw [lI_i2 (by omega), lI_mul]
        refine w_lstore_n (L' := [_, _, _, _, _, _]) d_X6_casesOfStayingOpen_67 rfl rfl rfl ?_
        refine w_iinc (L' := [_, _, _, _, _, _]) d_X6_casesOfStayingOpen_68 ik_1 rfl rfl rfl rfl ?_
        refine g_goto d_X6_casesOfStayingOpen_71 ?_
        have q := ih (j + 1) (by omega)
        first | rw [csN, if_neg (fun z => b2i_eq0.mp c42 ((bitT a (by omega) j (by omega)).mpr z))] at q | rw [csN, if_pos ((bitT a (by omega) j (by omega)).mp (b2i_ne0.mp c42)), if_pos ((bitT b (by omega) j (by omega)).mp c53)] at q | rw [csN, if_pos ((bitT a (by omega) j (by omega)).mp (b2i_ne0.mp c42)), if_neg (fun z => c53 ((bitT b (by omega) j (by omega)).mpr z))] at q
        rw [nI_1]
        exact q
      · refine g_bipush d_X6_casesOfStayingOpen_56 bk_10 ?_
        refine g_iload_n d_X6_casesOfStayingOpen_58 rfl ?_
        refine g_isub d_X6_casesOfStayingOpen_59 ?_
        refine g_i2l d_X6_casesOfStayingOpen_60 ?_
        refine g_goto d_X6_casesOfStayingOpen_61 ?_
        refine g_lmul d_X6_casesOfStayingOpen_66 ?_
        rw [ten_sub hp, lI_mul]
        refine w_lstore_n (L' := [_, _, _, _, _, _]) d_X6_casesOfStayingOpen_67 rfl rfl rfl ?_
        refine w_iinc (L' := [_, _, _, _, _, _]) d_X6_casesOfStayingOpen_68 ik_1 rfl rfl rfl rfl ?_
        refine g_goto d_X6_casesOfStayingOpen_71 ?_
        have q := ih (j + 1) (by omega)
        first | rw [csN, if_neg (fun z => b2i_eq0.mp c42 ((bitT a (by omega) j (by omega)).mpr z))] at q | rw [csN, if_pos ((bitT a (by omega) j (by omega)).mp (b2i_ne0.mp c42)), if_pos ((bitT b (by omega) j (by omega)).mp c53)] at q | rw [csN, if_pos ((bitT a (by omega) j (by omega)).mp (b2i_ne0.mp c42)), if_neg (fun z => c53 ((bitT b (by omega) j (by omega)).mpr z))] at q
        rw [nI_1]
        exact q
theorem m6_cases {H : Hv} {M a b p : Nat} (hM : H 15 2 = nI M) (hM5 : M ≤ 5) (ho : H 15 4 = nI a) (ha : a < 2 ^ M) (hb : b < 2 ^ M) (hp : p ≤ 10) : MtF M_X6_casesOfStayingOpen 1 [.ref 0, .int (nI b), .int (nI p)] (H) (some (.long (lI (if subB b a then csN a b p M else 0)))) (H) := by
  have h32 := pow5 hM5
  refine MtF.of [some (.ref 0), some (.int (nI b)), some (.int (nI p)), none, none, none] pl_X6 rfl rfl ?_
  refine g_iload_n d_X6_casesOfStayingOpen_0 rfl ?_
  refine g_aload_n d_X6_casesOfStayingOpen_1 rfl ?_
  refine h_getR d_X6_casesOfStayingOpen_2 fl_6_26 sp_L rfl ?_
  refine h_getV (v := nI a) d_X6_casesOfStayingOpen_5 fl_6_228 (sp_hall hall_15) rfl (ho) ?_
  refine g_iconst d_X6_casesOfStayingOpen_8 ik_m1 ?_
  refine g_ixor d_X6_casesOfStayingOpen_9 ?_
  refine g_iand d_X6_casesOfStayingOpen_10 ?_
  refine g_if_eq d_X6_casesOfStayingOpen_11 (fun c11 => ?_) (fun c11 => ?_)
  · refine g_lconst (v := 1) d_X6_casesOfStayingOpen_16 (by decide) ?_
    refine w_lstore_n (L' := [_, _, _, _, _, _]) d_X6_casesOfStayingOpen_17 rfl rfl rfl ?_
    refine g_iconst d_X6_casesOfStayingOpen_18 ik_0 ?_
    refine w_istore (L' := [_, _, _, _, _, _]) d_X6_casesOfStayingOpen_19 rfl rfl rfl ?_
    refine lp_cases hM hM5 ho ha hb hp ?_ M 0 (by omega)
    refine g_lload_n d_X6_casesOfStayingOpen_74 rfl ?_
    refine h_lret d_X6_casesOfStayingOpen_75 rfl ?_
    exact ⟨by rw [if_pos c11], rfl⟩
  · refine g_lconst (v := 0) d_X6_casesOfStayingOpen_14 (by decide) ?_
    refine h_lret d_X6_casesOfStayingOpen_15 rfl ?_
    exact ⟨by rw [if_neg c11]; rfl, rfl⟩
theorem lp_gd {H : Hv} {x y : Int64} : ∀ (s t a b : Nat), t + s = 100 → a < 2 ^ 63 → b < 2 ^ 63 → ∀ (y9 y10 : Option Value), GdH M_X6_greatestDivisor 0 9 [some (.long x), none, some (.long y), none, some (.long (lI a)), none, some (.long (lI b)), none, some (.int (nI t)), y9, y10] [] H (fun v' h' => v' = some (.long (lI (gdC s a b))) ∧ h' = H) := by
  intro s
  induction s with
  | zero =>
    intro t a b ht ha hb y9 y10
    refine g_iload d_X6_greatestDivisor_9 rfl ?_
    refine g_bipush d_X6_greatestDivisor_11 bk_100 ?_
    refine g_icmp_ge d_X6_greatestDivisor_13 (fun c13 => ?_) (fun c13 => absurd (nI_le (a := 100) (b := t) (by omega) (by omega)) c13)
    refine g_lload d_X6_greatestDivisor_44 rfl ?_
    refine h_lret d_X6_greatestDivisor_46 rfl ?_
    exact ⟨rfl, rfl⟩
  | succ s ih =>
    intro t a b ht ha hb y9 y10
    have hc := cmp0 hb
    rw [gdC]
    refine g_iload d_X6_greatestDivisor_9 rfl ?_
    refine g_bipush d_X6_greatestDivisor_11 bk_100 ?_
    refine g_icmp_ge d_X6_greatestDivisor_13 (fun c13 => absurd c13 (nI_ge (a := t) (b := 100) (by omega) (by omega))) (fun c13 => ?_)
    refine g_lload d_X6_greatestDivisor_16 rfl ?_
    refine g_lconst (v := 0) d_X6_greatestDivisor_18 (by decide) ?_
    refine g_lcmp d_X6_greatestDivisor_19 ?_
    refine g_if_eq d_X6_greatestDivisor_20 (fun c20 => ?_) (fun c20 => ?_)
    · refine g_lload d_X6_greatestDivisor_44 rfl ?_
      refine h_lret d_X6_greatestDivisor_46 rfl ?_
      exact ⟨by rw [if_pos (hc.2.mp c20)], rfl⟩
    · refine g_lload d_X6_greatestDivisor_23 rfl ?_
      refine g_lload d_X6_greatestDivisor_25 rfl ?_
      refine g_lrem d_X6_greatestDivisor_27 (fun z => c20 (hc.2.mpr ((lI_eq0 hb).mp z))) ?_
      rw [lI_rem ha hb]
      refine w_lstore (L' := [_, _, _, _, _, _, _, _, _, _, _]) d_X6_greatestDivisor_28 rfl rfl rfl ?_
      refine g_lload d_X6_greatestDivisor_30 rfl ?_
      refine w_lstore (L' := [_, _, _, _, _, _, _, _, _, _, _]) d_X6_greatestDivisor_32 rfl rfl rfl ?_
      refine g_lload d_X6_greatestDivisor_34 rfl ?_
      refine w_lstore (L' := [_, _, _, _, _, _, _, _, _, _, _]) d_X6_greatestDivisor_36 rfl rfl rfl ?_
      refine w_iinc (L' := [_, _, _, _, _, _, _, _, _, _, _]) d_X6_greatestDivisor_38 ik_1 rfl rfl rfl rfl ?_
      refine g_goto d_X6_greatestDivisor_41 ?_
      rw [nI_1, if_neg (fun z => c20 (hc.2.mpr z))]
      exact ih (t + 1) b (a % b) (by omega) hb (Nat.lt_of_le_of_lt (Nat.mod_le a b) ha) _ _
theorem lp_gcd {H : Hv} {x y : Int64} : ∀ (b a : Nat), a < 2 ^ 63 → b < 2 ^ 63 → ∀ (y8 y9 : Option Value), GdH M_X7_gcd 0 6 [some (.long x), none, some (.long y), none, some (.long (lI a)), none, some (.long (lI b)), none, y8, y9] [] H (fun v' h' => v' = some (.long (lI (Nat.gcd b a))) ∧ h' = H) := by
  intro b
  induction b using Nat.strongRecOn with
  | ind b ih =>
    intro a ha hb y8 y9
    have hc := cmp0 hb
    refine g_lload d_X7_gcd_6 rfl ?_
    refine g_lconst (v := 0) d_X7_gcd_8 (by decide) ?_
    refine g_lcmp d_X7_gcd_9 ?_
    refine g_if_eq d_X7_gcd_10 (fun c10 => ?_) (fun c10 => ?_)
    · refine g_lload d_X7_gcd_31 rfl ?_
      refine h_lret d_X7_gcd_33 rfl ?_
      exact ⟨by rw [hc.2.mp c10, Nat.gcd_zero_left], rfl⟩
    · refine g_lload d_X7_gcd_13 rfl ?_
      refine g_lload d_X7_gcd_15 rfl ?_
      refine g_lrem d_X7_gcd_17 (fun z => c10 (hc.2.mpr ((lI_eq0 hb).mp z))) ?_
      rw [lI_rem ha hb]
      refine w_lstore (L' := [_, _, _, _, _, _, _, _, _, _]) d_X7_gcd_18 rfl rfl rfl ?_
      refine g_lload d_X7_gcd_20 rfl ?_
      refine w_lstore (L' := [_, _, _, _, _, _, _, _, _, _]) d_X7_gcd_22 rfl rfl rfl ?_
      refine g_lload d_X7_gcd_24 rfl ?_
      refine w_lstore (L' := [_, _, _, _, _, _, _, _, _, _]) d_X7_gcd_26 rfl rfl rfl ?_
      refine g_goto d_X7_gcd_28 ?_
      have hb0 : 0 < b := Nat.pos_of_ne_zero (fun z => c10 (hc.2.mpr z))
      rw [Nat.gcd_rec]
      exact ih (a % b) (Nat.mod_lt a hb0) b hb (Nat.lt_of_le_of_lt (Nat.mod_le a b) ha) _ _
theorem m6_gd {H : Hv} {a b : Nat} (ha : a < 2 ^ 63) (hb : b < 2 ^ 40) : MtF M_X6_greatestDivisor 0 [.long (lI a), .long (lI b)] (H) (some (.long (lI (Nat.gcd b a)))) (H) := by
  refine MtF.of [some (.long (lI a)), none, some (.long (lI b)), none, none, none, none, none, none, none, none] pl_X6 rfl rfl ?_
  refine g_lload_n d_X6_greatestDivisor_0 rfl ?_
  refine w_lstore (L' := [_, _, _, _, _, _, _, _, _, _, _]) d_X6_greatestDivisor_1 rfl rfl rfl ?_
  refine g_lload_n d_X6_greatestDivisor_3 rfl ?_
  refine w_lstore (L' := [_, _, _, _, _, _, _, _, _, _, _]) d_X6_greatestDivisor_4 rfl rfl rfl ?_
  refine g_iconst d_X6_greatestDivisor_6 ik_0 ?_
  refine w_istore (L' := [_, _, _, _, _, _, _, _, _, _, _]) d_X6_greatestDivisor_7 rfl rfl rfl ?_
  rw [← gdC_eq 40 100 a b (by omega) hb]
  exact lp_gd 100 0 a b rfl ha (by omega) _ _
theorem m7_gcd {H : Hv} {a b : Nat} (ha : a < 2 ^ 63) (hb : b < 2 ^ 63) : MtF M_X7_gcd 0 [.long (lI a), .long (lI b)] (H) (some (.long (lI (Nat.gcd b a)))) (H) := by
  refine MtF.of [some (.long (lI a)), none, some (.long (lI b)), none, none, none, none, none, none, none] pl_X7 rfl rfl ?_
  refine g_lload_n d_X7_gcd_0 rfl ?_
  refine w_lstore (L' := [_, _, _, _, _, _, _, _, _, _]) d_X7_gcd_1 rfl rfl rfl ?_
  refine g_lload_n d_X7_gcd_3 rfl ?_
  refine w_lstore (L' := [_, _, _, _, _, _, _, _, _, _]) d_X7_gcd_4 rfl rfl rfl ?_
  exact lp_gcd b a ha hb _ _
theorem lp_raised {H : Hv} {b e : Nat} (he : e < 100) {P : Option Value → Hv → Prop} (kx : GdH M_X7_raised 0 21 [some (.long (lI b)), none, some (.int (nI e)), some (.long (lI (b ^ e))), none, some (.int (nI e))] [] (H) P) : ∀ (n j : Nat), j + n = e → GdH M_X7_raised 0 5 [some (.long (lI b)), none, some (.int (nI e)), some (.long (lI (b ^ j))), none, some (.int (nI j))] [] (H) P := by
  intro n
  induction n with
  | zero =>
    intro j hj
    have hj' : j = e := by omega
    rw [hj']
    refine g_iload d_X7_raised_5 rfl ?_
    refine g_iload_n d_X7_raised_7 rfl ?_
    refine g_icmp_ge d_X7_raised_8 (fun c8 => ?_) (fun c8 => absurd (nI_le (a := e) (b := e) (Nat.le_refl _) (by omega)) c8)
    exact kx
  | succ n ih =>
    intro j hj
    refine g_iload d_X7_raised_5 rfl ?_
    refine g_iload_n d_X7_raised_7 rfl ?_
    refine g_icmp_ge d_X7_raised_8 (fun c8 => absurd c8 (nI_ge (a := j) (b := e) (by omega) (by omega))) (fun c8 => ?_)
    refine g_lload_n d_X7_raised_11 rfl ?_
    refine g_lload_n d_X7_raised_12 rfl ?_
    refine g_lmul d_X7_raised_13 ?_
    refine w_lstore_n (L' := [_, _, _, _, _, _]) d_X7_raised_14 rfl rfl rfl ?_
    refine w_iinc (L' := [_, _, _, _, _, _]) d_X7_raised_15 ik_1 rfl rfl rfl rfl ?_
    refine g_goto d_X7_raised_18 ?_
    have q := ih (j + 1) (by omega)
    rw [Nat.pow_succ, ← lI_mul] at q
    rw [nI_1]
    exact q
theorem m7_raised {H : Hv} {b e : Nat} (he : e < 100) : MtF M_X7_raised 0 [.long (lI b), .int (nI e)] (H) (some (.long (lI (b ^ e)))) (H) := by
  refine MtF.of [some (.long (lI b)), none, some (.int (nI e)), none, none, none] pl_X7 rfl rfl ?_
  refine g_lconst (v := 1) d_X7_raised_0 (by decide) ?_
  refine w_lstore_n (L' := [_, _, _, _, _, _]) d_X7_raised_1 rfl rfl rfl ?_
  refine g_iconst d_X7_raised_2 ik_0 ?_
  refine w_istore (L' := [_, _, _, _, _, _]) d_X7_raised_3 rfl rfl rfl ?_
  refine lp_raised he ?_ e 0 (by omega)
  refine g_lload_n d_X7_raised_21 rfl ?_
  refine h_lret d_X7_raised_22 rfl ?_
  exact ⟨rfl, rfl⟩
theorem lp_breaks6 {h w : Hv} {M N n l a p : Nat} {y : Int32} (hI : HI M N (hv h 15)) (hl : l < N) (hn : n < 2 ^ 30) (eo : hv h 15 0 4 = nI a) (ha : a < 2 ^ M) (hp : p ≤ 10) {E : Nat} (hE : (1 : Int32) <<< (nI M &&& 31) = nI E) (hE2 : E = 2 ^ M) {P : Option Value → Hv → Prop} (kx : ∀ (g' : Hv) (y8 y9 y10 : Option Value), GdH M_X6_breaks 6 111 [some (.ref 0), some (.int (nI l)), some (.int (nI n)), some (.int (nI p)), some (.int y), some (.long (lI (smN (brF M N n l a p (hv h 15)) E))), none, some (.int (nI E)), y8, y9, y10] [] (pu (mu h w) 27 g') P) : ∀ (m b : Nat), b + m = E → ∀ (g' : Hv) (y8 y9 y10 : Option Value), GdH M_X6_breaks 6 52 [some (.ref 0), some (.int (nI l)), some (.int (nI n)), some (.int (nI p)), some (.int y), some (.long (lI (smN (brF M N n l a p (hv h 15)) b))), none, some (.int (nI b)), y8, y9, y10] [] (pu (mu h w) 27 g') P := by
  have hM5 := hI.hM5
  have hN6 := hI.hN6
  have h32 := pow5 hM5
  intro m
  induction m with
  | zero =>
    intro b hb g' y8 y9 y10
    have hb' : b = E := by omega
    rw [hb']
    refine g_iload d_X6_breaks_52 rfl ?_
    refine g_iconst d_X6_breaks_54 ik_1 ?_
    refine g_aload_n d_X6_breaks_55 rfl ?_
    refine h_getR d_X6_breaks_56 fl_6_26 sp_L rfl ?_
    refine h_getV (v := nI M) d_X6_breaks_59 fl_6_132 (sp_hall hall_15) rfl ((pu_out (by decide)).trans ((mu_low (by decide)).trans ((hv_at (by decide)).symm.trans hI.hM))) ?_
    refine g_ishl d_X6_breaks_62 ?_
    rw [hE]
    refine g_icmp_ge d_X6_breaks_63 (fun c63 => ?_) (fun c63 => absurd (nI_le (a := E) (b := E) (Nat.le_refl _) (by omega)) c63)
    exact kx g' y8 y9 y10
  | succ m ih =>
    intro b hb g' y8 y9 y10
    have hIb := hI.openb (b := b) (by omega)
    have hI2 := hIb.tickN n
    have hcl : (if subB b a then csN a b p M else 0) < 2 ^ 63 := by
      have h1 := csN_le (o := a) (b := b) hp M
      have h2 : 10 ^ M ≤ 10 ^ 5 := Nat.pow_le_pow_right (by decide) hM5
      split <;> omega
    have hc := cmp0 hcl
    refine g_iload d_X6_breaks_52 rfl ?_
    refine g_iconst d_X6_breaks_54 ik_1 ?_
    refine g_aload_n d_X6_breaks_55 rfl ?_
    refine h_getR d_X6_breaks_56 fl_6_26 sp_L rfl ?_
    refine h_getV (v := nI M) d_X6_breaks_59 fl_6_132 (sp_hall hall_15) rfl ((pu_out (by decide)).trans ((mu_low (by decide)).trans ((hv_at (by decide)).symm.trans hI.hM))) ?_
    refine g_ishl d_X6_breaks_62 ?_
    rw [hE]
    refine g_icmp_ge d_X6_breaks_63 (fun c63 => absurd c63 (nI_ge (a := b) (b := E) (by omega) (by omega))) (fun c63 => ?_)
    refine g_aload_n d_X6_breaks_66 rfl ?_
    refine g_iload d_X6_breaks_67 rfl ?_
    refine g_iload_n d_X6_breaks_69 rfl ?_
    refine h_V2l d_X6_breaks_70 cl_6_315 (m6_cases ((pu_out (by decide)).trans ((mu_low (by decide)).trans ((hv_at (by decide)).symm.trans hI.hM))) hM5 ((pu_out (by decide)).trans ((mu_low (by decide)).trans ((hv_at (by decide)).symm.trans eo))) ha (by omega) hp) sp_L (by decide) rfl (Nat.le_of_ble_eq_true rfl) (by decide) ?_
    refine w_lstore (L' := [_, _, _, _, _, _, _, _, _, _, _]) d_X6_breaks_73 rfl rfl rfl ?_
    refine g_lload d_X6_breaks_75 rfl ?_
    refine g_lconst (v := 0) d_X6_breaks_77 (by decide) ?_
    refine g_lcmp d_X6_breaks_78 ?_
    refine g_if_le d_X6_breaks_79 (fun c79 => ?_) (fun c79 => ?_)
    · refine w_iinc (L' := [_, _, _, _, _, _, _, _, _, _, _]) d_X6_breaks_105 ik_1 rfl rfl rfl rfl ?_
      refine g_goto d_X6_breaks_108 ?_
      rw [nI_1]
      have q := ih (b + 1) (by omega) g' (some (.long (lI (if subB b a then csN a b p M else 0)))) none y10
      rw [smN] at q
      have hz := hc.1.mp c79
      have hF : (brF M N n l a p (hv h 15)) b = 0 := by
        unfold brF
        by_cases z : subB b a
        · rw [if_pos z] at hz ⊢
          split
          · exact hz
          · rfl
        · rw [if_neg z]
      rw [hF, Nat.add_zero] at q
      exact q
    · refine g_aload_n d_X6_breaks_82 rfl ?_
      refine g_iload_n d_X6_breaks_83 rfl ?_
      refine g_iload d_X6_breaks_84 rfl ?_
      refine h_V2a d_X6_breaks_86 cl_6_276 (p_bwo27 hI (by omega) rfl hn rfl) sp_L (by decide) rfl (Nat.le_of_ble_eq_true rfl) (by decide) ?_
      refine h_getR d_X6_breaks_89 fl_6_189 (sp_hall hall_27) rfl ?_
      refine g_iload_n d_X6_breaks_92 rfl ?_
      refine hh_aldE (k := l) d_X6_breaks_93 (sp_h9 hall_27) (by decide) rfl (by omega) (by decide) ?_
      refine g_iconst d_X6_breaks_94 ik_2 ?_
      refine g_icmp_ne d_X6_breaks_95 (fun c95 => ?_) (fun c95 => ?_)
      · refine w_iinc (L' := [_, _, _, _, _, _, _, _, _, _, _]) d_X6_breaks_105 ik_1 rfl rfl rfl rfl ?_
        refine g_goto d_X6_breaks_108 ?_
        rw [nI_1]
        have q := ih (b + 1) (by omega) (tickN M N n (hset (hv h 15) 0 4 (nI b))) (some (.long (lI (if subB b a then csN a b p M else 0)))) none y10
        rw [smN] at q
        have hz : subB b a := Decidable.byContradiction (fun z => c79 (hc.1.mpr (if_neg z)))
        have hF : (brF M N n l a p (hv h 15)) b = 0 := by
          unfold brF
          rw [if_pos hz, if_neg c95]
        rw [hF, Nat.add_zero] at q
        exact q
      · refine g_lload d_X6_breaks_98 rfl ?_
        refine g_lload d_X6_breaks_100 rfl ?_
        refine g_ladd d_X6_breaks_102 ?_
        rw [lI_add]
        refine w_lstore (L' := [_, _, _, _, _, _, _, _, _, _, _]) d_X6_breaks_103 rfl rfl rfl ?_
        refine w_iinc (L' := [_, _, _, _, _, _, _, _, _, _, _]) d_X6_breaks_105 ik_1 rfl rfl rfl rfl ?_
        refine g_goto d_X6_breaks_108 ?_
        rw [nI_1]
        have q := ih (b + 1) (by omega) (tickN M N n (hset (hv h 15) 0 4 (nI b))) (some (.long (lI (if subB b a then csN a b p M else 0)))) none y10
        rw [smN] at q
        have hz : subB b a := Decidable.byContradiction (fun z => c79 (hc.1.mpr (if_neg z)))
        have hF : (brF M N n l a p (hv h 15)) b = (if subB b a then csN a b p M else 0) := by
          unfold brF
          rw [if_pos hz, if_pos c95, if_pos hz]
        rw [hF] at q
        exact q
theorem lp_below {H : Hv} {M a : Nat} (hM : H 15 2 = nI M) (hM5 : M ≤ 5) (ho : H 15 4 = nI a) (ha : a < 2 ^ M) {v1 v2 v3 v4 : Int32} {v5 : Int64} {y10 : Option Value} {P : Option Value → Hv → Prop} (kx : GdH M_X6_breaks 6 159 [some (.ref 0), some (.int v1), some (.int v2), some (.int v3), some (.int v4), some (.long v5), none, some (.long (lI (dnN a M))), none, some (.int (nI M)), y10] [] (H) P) : ∀ (n j : Nat), j + n = M → GdH M_X6_breaks 6 117 [some (.ref 0), some (.int v1), some (.int v2), some (.int v3), some (.int v4), some (.long v5), none, some (.long (lI (dnN a j))), none, some (.int (nI j)), y10] [] (H) P := by
  intro n
  induction n with
  | zero =>
    intro j hj
    have h32 := pow5 hM5
    have hj' : j = M := by omega
    rw [hj']
    refine g_iload d_X6_breaks_117 rfl ?_
    refine g_aload_n d_X6_breaks_119 rfl ?_
    refine h_getR d_X6_breaks_120 fl_6_26 sp_L rfl ?_
    refine h_getV (v := nI M) d_X6_breaks_123 fl_6_132 (sp_hall hall_15) rfl (hM) ?_
    refine g_icmp_ge d_X6_breaks_126 (fun c126 => ?_) (fun c126 => absurd (nI_le (a := M) (b := M) (Nat.le_refl _) (by omega)) c126)
    exact kx
  | succ n ih =>
    intro j hj
    have h32 := pow5 hM5
    refine g_iload d_X6_breaks_117 rfl ?_
    refine g_aload_n d_X6_breaks_119 rfl ?_
    refine h_getR d_X6_breaks_120 fl_6_26 sp_L rfl ?_
    refine h_getV (v := nI M) d_X6_breaks_123 fl_6_132 (sp_hall hall_15) rfl (hM) ?_
    refine g_icmp_ge d_X6_breaks_126 (fun c126 => absurd c126 (nI_ge (a := j) (b := M) (by omega) (by omega))) (fun c126 => ?_)
    refine g_lload d_X6_breaks_129 rfl ?_
    refine g_aload_n d_X6_breaks_131 rfl ?_
    refine h_getR d_X6_breaks_132 fl_6_26 sp_L rfl ?_
    refine g_iload d_X6_breaks_135 rfl ?_
    refine h_V1i d_X6_breaks_137 cl_6_177 (p_isOpenO ho) (sp_hall hall_15) (by decide) rfl (Nat.le_of_ble_eq_true rfl) (by decide) ?_
    refine g_if_eq d_X6_breaks_140 (fun c140 => ?_) (fun c140 => ?_)
    · refine g_lconst (v := 1) d_X6_breaks_149 (by decide) ?_
      refine g_lmul d_X6_breaks_150 ?_
      refine w_lstore (L' := [_, _, _, _, _, _, _, _, _, _, _]) d_X6_breaks_151 rfl rfl rfl ?_
      refine w_iinc (L' := [_, _, _, _, _, _, _, _, _, _, _]) d_X6_breaks_153 ik_1 rfl rfl rfl rfl ?_
      refine g_goto d_X6_breaks_156 ?_
      have q := ih (j + 1) (by omega)
      rw [dnN] at q
      first | rw [if_neg (fun z => b2i_eq0.mp c140 ((bitT a (by omega) j (by omega)).mpr z)), ← lI_mul] at q | rw [if_pos ((bitT a (by omega) j (by omega)).mp (b2i_ne0.mp c140)), ← lI_mul] at q
      rw [nI_1]
      exact q
    · refine g_ldc2 d_X6_breaks_143 kl_X6_319 ?_
      refine g_goto d_X6_breaks_146 ?_
      refine g_lmul d_X6_breaks_150 ?_
      refine w_lstore (L' := [_, _, _, _, _, _, _, _, _, _, _]) d_X6_breaks_151 rfl rfl rfl ?_
      refine w_iinc (L' := [_, _, _, _, _, _, _, _, _, _, _]) d_X6_breaks_153 ik_1 rfl rfl rfl rfl ?_
      refine g_goto d_X6_breaks_156 ?_
      have q := ih (j + 1) (by omega)
      rw [dnN] at q
      first | rw [if_neg (fun z => b2i_eq0.mp c140 ((bitT a (by omega) j (by omega)).mpr z)), ← lI_mul] at q | rw [if_pos ((bitT a (by omega) j (by omega)).mp (b2i_ne0.mp c140)), ← lI_mul] at q
      rw [nI_1]
      exact q
theorem lp_breaks7 {h w g : Hv} {M N n l a p : Nat} {y : Int32} (hI : HI M N g) (hl : l < N) (wN : w 7 1 = nI N) (wM : w 7 0 = nI M) (hR : Rep0 M N g w 7 8) (hrk : ∀ j, j < N → g 11 j = nI j) (hn : n < 2 ^ 30) (ha : a < 2 ^ M) (hp : p ≤ 10) {E : Nat} (hE : (1 : Int32) <<< (nI M &&& 31) = nI E) (hE2 : E = 2 ^ M) {P : Option Value → Hv → Prop} (kx : ∀ (w' : Hv) (y9 y10 y11 : Option Value), FrS w w' → GdH M_X7_breaks 4 169 [some (.ref 360), some (.int (nI l)), some (.int (nI n)), some (.int (nI p)), some (.int y), some (.int (nI a)), some (.long (lI (smN (brR M N n l a p g) E))), none, some (.int (nI E)), y9, y10, y11] [] (mu h w') P) : ∀ (m b : Nat), b + m = E → ∀ (w' : Hv) (y9 y10 y11 : Option Value), FrS w w' → GdH M_X7_breaks 4 61 [some (.ref 360), some (.int (nI l)), some (.int (nI n)), some (.int (nI p)), some (.int y), some (.int (nI a)), some (.long (lI (smN (brR M N n l a p g) b))), none, some (.int (nI b)), y9, y10, y11] [] (mu h w') P := by
  have hM5 := hI.hM5
  have hN6 := hI.hN6
  have h32 := pow5 hM5
  intro m
  induction m with
  | zero =>
    intro b hb w' y9 y10 y11 hf
    have hb' : b = E := by omega
    rw [hb']
    refine g_iload d_X7_breaks_61 rfl ?_
    refine g_iconst d_X7_breaks_63 ik_1 ?_
    refine g_aload_n d_X7_breaks_64 rfl ?_
    refine h_getR d_X7_breaks_65 fl_7_28 sp_M rfl ?_
    refine g_iconst d_X7_breaks_68 ik_0 ?_
    refine mm_aldV (k := 0) (v := nI M) d_X7_breaks_69 (j := 7) sp_m_d rfl (by decide) rfl (by omega) (by decide) ((hf 7 0 (by decide) (by decide) (by decide) (by decide) (by decide) (by omega)).trans wM) ?_
    refine g_ishl d_X7_breaks_70 ?_
    rw [hE]
    refine g_icmp_ge d_X7_breaks_71 (fun c71 => ?_) (fun c71 => absurd (nI_le (a := E) (b := E) (Nat.le_refl _) (by omega)) c71)
    exact kx w' y9 y10 y11 hf
  | succ m ih =>
    intro b hb w' y9 y10 y11 hf
    have hpa := pop32 a (by omega)
    have hpb := pop32 b (by omega)
    refine g_iload d_X7_breaks_61 rfl ?_
    refine g_iconst d_X7_breaks_63 ik_1 ?_
    refine g_aload_n d_X7_breaks_64 rfl ?_
    refine h_getR d_X7_breaks_65 fl_7_28 sp_M rfl ?_
    refine g_iconst d_X7_breaks_68 ik_0 ?_
    refine mm_aldV (k := 0) (v := nI M) d_X7_breaks_69 (j := 7) sp_m_d rfl (by decide) rfl (by omega) (by decide) ((hf 7 0 (by decide) (by decide) (by decide) (by decide) (by decide) (by omega)).trans wM) ?_
    refine g_ishl d_X7_breaks_70 ?_
    rw [hE]
    refine g_icmp_ge d_X7_breaks_71 (fun c71 => absurd c71 (nI_ge (a := b) (b := E) (by omega) (by omega))) (fun c71 => ?_)
    refine g_iload d_X7_breaks_74 rfl ?_
    refine g_iload d_X7_breaks_76 rfl ?_
    refine g_iconst d_X7_breaks_78 ik_m1 ?_
    refine g_ixor d_X7_breaks_79 ?_
    refine g_iand d_X7_breaks_80 ?_
    refine g_if_ne d_X7_breaks_81 (fun c81 => ?_) (fun c81 => ?_)
    · refine w_iinc (L' := [_, _, _, _, _, _, _, _, _, _, _, _]) d_X7_breaks_163 ik_1 rfl rfl rfl rfl ?_
      refine g_goto d_X7_breaks_166 ?_
      rw [nI_1]
      have q := ih (b + 1) (by omega) w' y9 y10 y11 hf
      rw [smN, show (brR M N n l a p g) b = 0 from if_neg c81, Nat.add_zero] at q
      exact q
    · have c81' : subB b a := c81
      have t1 := subT1 M hM5 a ha b (by omega) c81'
      have t2 := subT2 M hM5 a ha b (by omega) c81'
      have t4 := subT4 M hM5 a ha b (by omega) c81'
      have hIb := hI.openb (b := a ^^^ b) t2
      have hI2 := hIb.tickN n
      have hn0 := rep_now (hf.r0 hR hI.hM5 hI.hN6) hI.hM5 hI.hN6 hrk
      have hn1 := rep_04 (v := nI (a ^^^ b)) hn0 (Or.inr ⟨rfl, rfl⟩) hI.hM5 hI.hN6
      refine g_aload_n d_X7_breaks_84 rfl ?_
      refine h_V0v d_X7_breaks_85 cl_7_178 m7_asNow sp_M (by decide) rfl (Nat.le_of_ble_eq_true rfl) (by decide) ?_
      refine g_aload_n d_X7_breaks_88 rfl ?_
      refine h_V0v d_X7_breaks_89 cl_7_181 m7_ranksByNumber sp_M (by decide) rfl (Nat.le_of_ble_eq_true rfl) (by decide) ?_
      refine g_aload_n d_X7_breaks_92 rfl ?_
      refine h_getR d_X7_breaks_93 fl_7_37 sp_M rfl ?_
      refine g_iconst d_X7_breaks_96 ik_2 ?_
      refine g_iload d_X7_breaks_97 rfl ?_
      refine g_iload d_X7_breaks_99 rfl ?_
      refine g_iconst d_X7_breaks_101 ik_m1 ?_
      refine g_ixor d_X7_breaks_102 ?_
      refine g_iand d_X7_breaks_103 ?_
      rw [t1]
      refine mm_astE (k := 2) d_X7_breaks_104 (j := 10) sp_m_w rfl (by decide) rfl (by omega) (by decide) ?_
      refine g_aload_n d_X7_breaks_105 rfl ?_
      refine g_iload_n d_X7_breaks_106 rfl ?_
      refine h_V1P d_X7_breaks_107 cl_7_184 (m7_foretells hn1 hIb rfl hn) sp_M (by decide) rfl (Nat.le_of_ble_eq_true rfl) (by decide) ?_
      intro v' h' hp
      obtain ⟨rfl, w2, rfl, hr2, hf2, hd2⟩ := hp
      have hf3 := hf.tr (((nowR_fs (w := w')).set (j := 10) (by omega)).tr hf2.fs)
      refine g_lload d_X7_breaks_110 rfl ?_
      refine g_aload_n d_X7_breaks_112 rfl ?_
      refine h_getR d_X7_breaks_113 fl_7_37 sp_M rfl ?_
      refine g_bipush d_X7_breaks_116 bk_30 ?_
      refine g_iload_n d_X7_breaks_118 rfl ?_
      refine g_iadd d_X7_breaks_119 ?_
      refine mm_aldV (k := (30 + l)) (v := tickN M N n (hset g 0 4 (nI (a ^^^ b))) 9 l) d_X7_breaks_120 (j := 10) sp_m_w rfl (by decide) (nAdd rfl rfl) (by omega) (by decide) ((hr2.2.2.1 l hl).2.2.1.symm) ?_
      refine g_iconst d_X7_breaks_121 ik_2 ?_
      refine g_icmp_ne d_X7_breaks_122 (fun c122 => ?_) (fun c122 => ?_)
      · refine g_lconst (v := 0) d_X7_breaks_159 (by decide) ?_
        refine g_ladd d_X7_breaks_160 ?_
        first | rw [lI_add] | skip
        refine w_lstore (L' := [_, _, _, _, _, _, _, _, _, _, _, _]) d_X7_breaks_161 rfl rfl rfl ?_
        refine w_iinc (L' := [_, _, _, _, _, _, _, _, _, _, _, _]) d_X7_breaks_163 ik_1 rfl rfl rfl rfl ?_
        refine g_goto d_X7_breaks_166 ?_
        rw [nI_1]
        have q := ih (b + 1) (by omega) w2 y9 y10 y11 hf3
        rw [smN, show (brR M N n l a p g) b = 0 from (if_pos c81').trans (if_neg c122), ← lI_add] at q
        exact q
      · refine g_iload_n d_X7_breaks_125 rfl ?_
        refine g_i2l d_X7_breaks_126 ?_
        rw [lI_i2 (by omega)]
        refine g_iload d_X7_breaks_127 rfl ?_
        refine h_S1i d_X7_breaks_129 cl_7_228 (m7_ones (n := b) rfl (by omega)) (Nat.le_of_ble_eq_true rfl) (by decide) ?_
        refine h_S2l d_X7_breaks_132 cl_7_249 (m7_raised (by omega)) (Nat.le_of_ble_eq_true rfl) (by decide) ?_
        refine g_ldc2 d_X7_breaks_135 kl_X7_253 ?_
        refine g_iload_n d_X7_breaks_138 rfl ?_
        refine g_i2l d_X7_breaks_139 ?_
        rw [lI_i2 (by omega)]
        refine g_lsub d_X7_breaks_140 ?_
        rw [show (10 : Int64) - lI p = lI (10 - p) from lI_sub (a := 10) hp]
        refine g_iload d_X7_breaks_141 rfl ?_
        refine h_S1i d_X7_breaks_143 cl_7_228 (m7_ones (n := a) rfl (by omega)) (Nat.le_of_ble_eq_true rfl) (by decide) ?_
        refine g_iload d_X7_breaks_146 rfl ?_
        refine h_S1i d_X7_breaks_148 cl_7_228 (m7_ones (n := b) rfl (by omega)) (Nat.le_of_ble_eq_true rfl) (by decide) ?_
        refine g_isub d_X7_breaks_151 ?_
        rw [show nI (popN a) - nI (popN b) = nI (popN a - popN b) from pk_sub t4]
        refine h_S2l d_X7_breaks_152 cl_7_249 (m7_raised (by omega)) (Nat.le_of_ble_eq_true rfl) (by decide) ?_
        refine g_lmul d_X7_breaks_155 ?_
        rw [lI_mul]
        refine g_goto d_X7_breaks_156 ?_
        refine g_ladd d_X7_breaks_160 ?_
        first | rw [lI_add] | skip
        refine w_lstore (L' := [_, _, _, _, _, _, _, _, _, _, _, _]) d_X7_breaks_161 rfl rfl rfl ?_
        refine w_iinc (L' := [_, _, _, _, _, _, _, _, _, _, _, _]) d_X7_breaks_163 ik_1 rfl rfl rfl rfl ?_
        refine g_goto d_X7_breaks_166 ?_
        rw [nI_1]
        have q := ih (b + 1) (by omega) w2 y9 y10 y11 hf3
        rw [smN, show (brR M N n l a p g) b = p ^ popN b * (10 - p) ^ (popN a - popN b) from (if_pos c81').trans (if_pos c122)] at q
        exact q
theorem op_breaks {h w : Hv} (hR : RelP h w) {x y u z : Int32} : OPL M_X6_breaks M_X7_breaks 6 4 [.int x, .int y, .int u, .int z] (mu h w) := by
  obtain ⟨M, N, hM5, hN6, gM, wM, gN, wN, hZ⟩ := hR.mn
  have eM : (nI M).toInt = M := nI_toInt (by omega)
  have eN : (nI N).toInt = N := nI_toInt (by omega)
  have eM1 := nI_predI (t := M) (by omega)
  have eN1 := nI_predI (t := N) (by omega)
  refine MtH.of [some (.ref 0), some (.int x), some (.int y), some (.int u), some (.int z), none, none, none, none, none, none] pl_X6 rfl rfl ?_
  refine g_aload_n d_X6_breaks_0 rfl ?_
  refine h_getR d_X6_breaks_1 fl_6_26 sp_L rfl ?_
  refine g_iload_n d_X6_breaks_4 rfl ?_
  refine h_V1i d_X6_breaks_5 cl_6_183 p_hasLoad (sp_hall hall_15) (by decide) rfl (Nat.le_of_ble_eq_true rfl) (by decide) ?_
  refine g_if_eq d_X6_breaks_8 (fun c8 => ?_) (fun c8 => ?_)
  · refine g_ldc2 d_X6_breaks_42 kl_X6_313 ?_
    refine h_lret d_X6_breaks_45 rfl ?_
    refine ⟨_, rfl, ?_⟩
    refine MtH.of [some (.ref 360), some (.int x), some (.int y), some (.int u), some (.int z), none, none, none, none, none, none, none] pl_X7 rfl rfl ?_
    refine g_aload_n d_X7_breaks_0 rfl ?_
    refine g_iconst d_X7_breaks_1 ik_0 ?_
    refine mm_putI d_X7_breaks_2 fl_7_62 sp_M rfl ?_
    refine g_aload_n d_X7_breaks_5 rfl ?_
    refine g_iload_n d_X7_breaks_6 rfl ?_
    refine h_V1i d_X7_breaks_7 cl_7_204 (m7_isLoad ((hs_j (by decide)).trans wN)) sp_M (by decide) rfl (Nat.le_of_ble_eq_true rfl) (by decide) ?_
    refine g_if_eq d_X7_breaks_10 (fun c10 => ?_) (fun c10 => ?_)
    · refine g_ldc2 d_X7_breaks_43 kl_X7_247 ?_
      refine h_lret d_X7_breaks_46 rfl ?_
      exact ⟨rfl, _, _, rfl, hR.fr fr_thrown⟩
    · refine g_iload_n d_X7_breaks_13 rfl ?_
      refine g_iconst d_X7_breaks_14 ik_0 ?_
      refine g_bipush d_X7_breaks_15 bk_60 ?_
      refine h_S3i d_X7_breaks_17 cl_7_70 m7_in (Nat.le_of_ble_eq_true rfl) (by decide) ?_
      refine g_if_eq d_X7_breaks_20 (fun c20 => ?_) (fun c20 => ?_)
      · refine g_ldc2 d_X7_breaks_43 kl_X7_247 ?_
        refine h_lret d_X7_breaks_46 rfl ?_
        exact ⟨rfl, _, _, rfl, hR.fr fr_thrown⟩
      · refine g_iload_n d_X7_breaks_23 rfl ?_
        refine g_iconst d_X7_breaks_24 ik_0 ?_
        refine g_bipush d_X7_breaks_25 bk_10 ?_
        refine h_S3i d_X7_breaks_27 cl_7_70 m7_in (Nat.le_of_ble_eq_true rfl) (by decide) ?_
        refine g_if_eq d_X7_breaks_30 (fun c30 => ?_) (fun c30 => ?_)
        · refine g_ldc2 d_X7_breaks_43 kl_X7_247 ?_
          refine h_lret d_X7_breaks_46 rfl ?_
          exact ⟨rfl, _, _, rfl, hR.fr fr_thrown⟩
        · refine g_iload d_X7_breaks_33 rfl ?_
          refine g_iconst d_X7_breaks_35 ik_0 ?_
          refine g_iconst d_X7_breaks_36 ik_1 ?_
          refine h_S3i d_X7_breaks_37 cl_7_70 m7_in (Nat.le_of_ble_eq_true rfl) (by decide) ?_
          refine g_if_ne d_X7_breaks_40 (fun c40 => ?_) (fun c40 => ?_)
          · exfalso
            simp only [b2i_eq0, b2i_ne0, Int32.lt_iff_toInt_lt, Int32.le_iff_toInt_le, t_0, t_1, t_2, t_3, t_4, t_5, t_6, t_7, t_8, t_9, t_10, t_11, t_12, t_20, t_24, t_40, t_50, t_60, t_99, t_110, t_255, t_999, t_999999, t_m1, gM, gN, eM, eN, eM1, eN1] at *
            omega
          · refine g_ldc2 d_X7_breaks_43 kl_X7_247 ?_
            refine h_lret d_X7_breaks_46 rfl ?_
            exact ⟨rfl, _, _, rfl, hR.fr fr_thrown⟩
  · refine g_iload_n d_X6_breaks_11 rfl ?_
    refine g_if_lt d_X6_breaks_12 (fun c12 => ?_) (fun c12 => ?_)
    · refine g_ldc2 d_X6_breaks_42 kl_X6_313 ?_
      refine h_lret d_X6_breaks_45 rfl ?_
      refine ⟨_, rfl, ?_⟩
      refine MtH.of [some (.ref 360), some (.int x), some (.int y), some (.int u), some (.int z), none, none, none, none, none, none, none] pl_X7 rfl rfl ?_
      refine g_aload_n d_X7_breaks_0 rfl ?_
      refine g_iconst d_X7_breaks_1 ik_0 ?_
      refine mm_putI d_X7_breaks_2 fl_7_62 sp_M rfl ?_
      refine g_aload_n d_X7_breaks_5 rfl ?_
      refine g_iload_n d_X7_breaks_6 rfl ?_
      refine h_V1i d_X7_breaks_7 cl_7_204 (m7_isLoad ((hs_j (by decide)).trans wN)) sp_M (by decide) rfl (Nat.le_of_ble_eq_true rfl) (by decide) ?_
      refine g_if_eq d_X7_breaks_10 (fun c10 => ?_) (fun c10 => ?_)
      · refine g_ldc2 d_X7_breaks_43 kl_X7_247 ?_
        refine h_lret d_X7_breaks_46 rfl ?_
        exact ⟨rfl, _, _, rfl, hR.fr fr_thrown⟩
      · refine g_iload_n d_X7_breaks_13 rfl ?_
        refine g_iconst d_X7_breaks_14 ik_0 ?_
        refine g_bipush d_X7_breaks_15 bk_60 ?_
        refine h_S3i d_X7_breaks_17 cl_7_70 m7_in (Nat.le_of_ble_eq_true rfl) (by decide) ?_
        refine g_if_eq d_X7_breaks_20 (fun c20 => ?_) (fun c20 => ?_)
        · refine g_ldc2 d_X7_breaks_43 kl_X7_247 ?_
          refine h_lret d_X7_breaks_46 rfl ?_
          exact ⟨rfl, _, _, rfl, hR.fr fr_thrown⟩
        · refine g_iload_n d_X7_breaks_23 rfl ?_
          refine g_iconst d_X7_breaks_24 ik_0 ?_
          refine g_bipush d_X7_breaks_25 bk_10 ?_
          refine h_S3i d_X7_breaks_27 cl_7_70 m7_in (Nat.le_of_ble_eq_true rfl) (by decide) ?_
          refine g_if_eq d_X7_breaks_30 (fun c30 => ?_) (fun c30 => ?_)
          · refine g_ldc2 d_X7_breaks_43 kl_X7_247 ?_
            refine h_lret d_X7_breaks_46 rfl ?_
            exact ⟨rfl, _, _, rfl, hR.fr fr_thrown⟩
          · refine g_iload d_X7_breaks_33 rfl ?_
            refine g_iconst d_X7_breaks_35 ik_0 ?_
            refine g_iconst d_X7_breaks_36 ik_1 ?_
            refine h_S3i d_X7_breaks_37 cl_7_70 m7_in (Nat.le_of_ble_eq_true rfl) (by decide) ?_
            refine g_if_ne d_X7_breaks_40 (fun c40 => ?_) (fun c40 => ?_)
            · exfalso
              simp only [b2i_eq0, b2i_ne0, Int32.lt_iff_toInt_lt, Int32.le_iff_toInt_le, t_0, t_1, t_2, t_3, t_4, t_5, t_6, t_7, t_8, t_9, t_10, t_11, t_12, t_20, t_24, t_40, t_50, t_60, t_99, t_110, t_255, t_999, t_999999, t_m1, gM, gN, eM, eN, eM1, eN1] at *
              omega
            · refine g_ldc2 d_X7_breaks_43 kl_X7_247 ?_
              refine h_lret d_X7_breaks_46 rfl ?_
              exact ⟨rfl, _, _, rfl, hR.fr fr_thrown⟩
    · refine g_iload_n d_X6_breaks_15 rfl ?_
      refine g_bipush d_X6_breaks_16 bk_60 ?_
      refine g_icmp_gt d_X6_breaks_18 (fun c18 => ?_) (fun c18 => ?_)
      · refine g_ldc2 d_X6_breaks_42 kl_X6_313 ?_
        refine h_lret d_X6_breaks_45 rfl ?_
        refine ⟨_, rfl, ?_⟩
        refine MtH.of [some (.ref 360), some (.int x), some (.int y), some (.int u), some (.int z), none, none, none, none, none, none, none] pl_X7 rfl rfl ?_
        refine g_aload_n d_X7_breaks_0 rfl ?_
        refine g_iconst d_X7_breaks_1 ik_0 ?_
        refine mm_putI d_X7_breaks_2 fl_7_62 sp_M rfl ?_
        refine g_aload_n d_X7_breaks_5 rfl ?_
        refine g_iload_n d_X7_breaks_6 rfl ?_
        refine h_V1i d_X7_breaks_7 cl_7_204 (m7_isLoad ((hs_j (by decide)).trans wN)) sp_M (by decide) rfl (Nat.le_of_ble_eq_true rfl) (by decide) ?_
        refine g_if_eq d_X7_breaks_10 (fun c10 => ?_) (fun c10 => ?_)
        · refine g_ldc2 d_X7_breaks_43 kl_X7_247 ?_
          refine h_lret d_X7_breaks_46 rfl ?_
          exact ⟨rfl, _, _, rfl, hR.fr fr_thrown⟩
        · refine g_iload_n d_X7_breaks_13 rfl ?_
          refine g_iconst d_X7_breaks_14 ik_0 ?_
          refine g_bipush d_X7_breaks_15 bk_60 ?_
          refine h_S3i d_X7_breaks_17 cl_7_70 m7_in (Nat.le_of_ble_eq_true rfl) (by decide) ?_
          refine g_if_eq d_X7_breaks_20 (fun c20 => ?_) (fun c20 => ?_)
          · refine g_ldc2 d_X7_breaks_43 kl_X7_247 ?_
            refine h_lret d_X7_breaks_46 rfl ?_
            exact ⟨rfl, _, _, rfl, hR.fr fr_thrown⟩
          · refine g_iload_n d_X7_breaks_23 rfl ?_
            refine g_iconst d_X7_breaks_24 ik_0 ?_
            refine g_bipush d_X7_breaks_25 bk_10 ?_
            refine h_S3i d_X7_breaks_27 cl_7_70 m7_in (Nat.le_of_ble_eq_true rfl) (by decide) ?_
            refine g_if_eq d_X7_breaks_30 (fun c30 => ?_) (fun c30 => ?_)
            · refine g_ldc2 d_X7_breaks_43 kl_X7_247 ?_
              refine h_lret d_X7_breaks_46 rfl ?_
              exact ⟨rfl, _, _, rfl, hR.fr fr_thrown⟩
            · refine g_iload d_X7_breaks_33 rfl ?_
              refine g_iconst d_X7_breaks_35 ik_0 ?_
              refine g_iconst d_X7_breaks_36 ik_1 ?_
              refine h_S3i d_X7_breaks_37 cl_7_70 m7_in (Nat.le_of_ble_eq_true rfl) (by decide) ?_
              refine g_if_ne d_X7_breaks_40 (fun c40 => ?_) (fun c40 => ?_)
              · exfalso
                simp only [b2i_eq0, b2i_ne0, Int32.lt_iff_toInt_lt, Int32.le_iff_toInt_le, t_0, t_1, t_2, t_3, t_4, t_5, t_6, t_7, t_8, t_9, t_10, t_11, t_12, t_20, t_24, t_40, t_50, t_60, t_99, t_110, t_255, t_999, t_999999, t_m1, gM, gN, eM, eN, eM1, eN1] at *
                omega
              · refine g_ldc2 d_X7_breaks_43 kl_X7_247 ?_
                refine h_lret d_X7_breaks_46 rfl ?_
                exact ⟨rfl, _, _, rfl, hR.fr fr_thrown⟩
      · refine g_iload_n d_X6_breaks_21 rfl ?_
        refine g_if_lt d_X6_breaks_22 (fun c22 => ?_) (fun c22 => ?_)
        · refine g_ldc2 d_X6_breaks_42 kl_X6_313 ?_
          refine h_lret d_X6_breaks_45 rfl ?_
          refine ⟨_, rfl, ?_⟩
          refine MtH.of [some (.ref 360), some (.int x), some (.int y), some (.int u), some (.int z), none, none, none, none, none, none, none] pl_X7 rfl rfl ?_
          refine g_aload_n d_X7_breaks_0 rfl ?_
          refine g_iconst d_X7_breaks_1 ik_0 ?_
          refine mm_putI d_X7_breaks_2 fl_7_62 sp_M rfl ?_
          refine g_aload_n d_X7_breaks_5 rfl ?_
          refine g_iload_n d_X7_breaks_6 rfl ?_
          refine h_V1i d_X7_breaks_7 cl_7_204 (m7_isLoad ((hs_j (by decide)).trans wN)) sp_M (by decide) rfl (Nat.le_of_ble_eq_true rfl) (by decide) ?_
          refine g_if_eq d_X7_breaks_10 (fun c10 => ?_) (fun c10 => ?_)
          · refine g_ldc2 d_X7_breaks_43 kl_X7_247 ?_
            refine h_lret d_X7_breaks_46 rfl ?_
            exact ⟨rfl, _, _, rfl, hR.fr fr_thrown⟩
          · refine g_iload_n d_X7_breaks_13 rfl ?_
            refine g_iconst d_X7_breaks_14 ik_0 ?_
            refine g_bipush d_X7_breaks_15 bk_60 ?_
            refine h_S3i d_X7_breaks_17 cl_7_70 m7_in (Nat.le_of_ble_eq_true rfl) (by decide) ?_
            refine g_if_eq d_X7_breaks_20 (fun c20 => ?_) (fun c20 => ?_)
            · refine g_ldc2 d_X7_breaks_43 kl_X7_247 ?_
              refine h_lret d_X7_breaks_46 rfl ?_
              exact ⟨rfl, _, _, rfl, hR.fr fr_thrown⟩
            · refine g_iload_n d_X7_breaks_23 rfl ?_
              refine g_iconst d_X7_breaks_24 ik_0 ?_
              refine g_bipush d_X7_breaks_25 bk_10 ?_
              refine h_S3i d_X7_breaks_27 cl_7_70 m7_in (Nat.le_of_ble_eq_true rfl) (by decide) ?_
              refine g_if_eq d_X7_breaks_30 (fun c30 => ?_) (fun c30 => ?_)
              · refine g_ldc2 d_X7_breaks_43 kl_X7_247 ?_
                refine h_lret d_X7_breaks_46 rfl ?_
                exact ⟨rfl, _, _, rfl, hR.fr fr_thrown⟩
              · refine g_iload d_X7_breaks_33 rfl ?_
                refine g_iconst d_X7_breaks_35 ik_0 ?_
                refine g_iconst d_X7_breaks_36 ik_1 ?_
                refine h_S3i d_X7_breaks_37 cl_7_70 m7_in (Nat.le_of_ble_eq_true rfl) (by decide) ?_
                refine g_if_ne d_X7_breaks_40 (fun c40 => ?_) (fun c40 => ?_)
                · exfalso
                  simp only [b2i_eq0, b2i_ne0, Int32.lt_iff_toInt_lt, Int32.le_iff_toInt_le, t_0, t_1, t_2, t_3, t_4, t_5, t_6, t_7, t_8, t_9, t_10, t_11, t_12, t_20, t_24, t_40, t_50, t_60, t_99, t_110, t_255, t_999, t_999999, t_m1, gM, gN, eM, eN, eM1, eN1] at *
                  omega
                · refine g_ldc2 d_X7_breaks_43 kl_X7_247 ?_
                  refine h_lret d_X7_breaks_46 rfl ?_
                  exact ⟨rfl, _, _, rfl, hR.fr fr_thrown⟩
        · refine g_iload_n d_X6_breaks_25 rfl ?_
          refine g_bipush d_X6_breaks_26 bk_10 ?_
          refine g_icmp_gt d_X6_breaks_28 (fun c28 => ?_) (fun c28 => ?_)
          · refine g_ldc2 d_X6_breaks_42 kl_X6_313 ?_
            refine h_lret d_X6_breaks_45 rfl ?_
            refine ⟨_, rfl, ?_⟩
            refine MtH.of [some (.ref 360), some (.int x), some (.int y), some (.int u), some (.int z), none, none, none, none, none, none, none] pl_X7 rfl rfl ?_
            refine g_aload_n d_X7_breaks_0 rfl ?_
            refine g_iconst d_X7_breaks_1 ik_0 ?_
            refine mm_putI d_X7_breaks_2 fl_7_62 sp_M rfl ?_
            refine g_aload_n d_X7_breaks_5 rfl ?_
            refine g_iload_n d_X7_breaks_6 rfl ?_
            refine h_V1i d_X7_breaks_7 cl_7_204 (m7_isLoad ((hs_j (by decide)).trans wN)) sp_M (by decide) rfl (Nat.le_of_ble_eq_true rfl) (by decide) ?_
            refine g_if_eq d_X7_breaks_10 (fun c10 => ?_) (fun c10 => ?_)
            · refine g_ldc2 d_X7_breaks_43 kl_X7_247 ?_
              refine h_lret d_X7_breaks_46 rfl ?_
              exact ⟨rfl, _, _, rfl, hR.fr fr_thrown⟩
            · refine g_iload_n d_X7_breaks_13 rfl ?_
              refine g_iconst d_X7_breaks_14 ik_0 ?_
              refine g_bipush d_X7_breaks_15 bk_60 ?_
              refine h_S3i d_X7_breaks_17 cl_7_70 m7_in (Nat.le_of_ble_eq_true rfl) (by decide) ?_
              refine g_if_eq d_X7_breaks_20 (fun c20 => ?_) (fun c20 => ?_)
              · refine g_ldc2 d_X7_breaks_43 kl_X7_247 ?_
                refine h_lret d_X7_breaks_46 rfl ?_
                exact ⟨rfl, _, _, rfl, hR.fr fr_thrown⟩
              · refine g_iload_n d_X7_breaks_23 rfl ?_
                refine g_iconst d_X7_breaks_24 ik_0 ?_
                refine g_bipush d_X7_breaks_25 bk_10 ?_
                refine h_S3i d_X7_breaks_27 cl_7_70 m7_in (Nat.le_of_ble_eq_true rfl) (by decide) ?_
                refine g_if_eq d_X7_breaks_30 (fun c30 => ?_) (fun c30 => ?_)
                · refine g_ldc2 d_X7_breaks_43 kl_X7_247 ?_
                  refine h_lret d_X7_breaks_46 rfl ?_
                  exact ⟨rfl, _, _, rfl, hR.fr fr_thrown⟩
                · refine g_iload d_X7_breaks_33 rfl ?_
                  refine g_iconst d_X7_breaks_35 ik_0 ?_
                  refine g_iconst d_X7_breaks_36 ik_1 ?_
                  refine h_S3i d_X7_breaks_37 cl_7_70 m7_in (Nat.le_of_ble_eq_true rfl) (by decide) ?_
                  refine g_if_ne d_X7_breaks_40 (fun c40 => ?_) (fun c40 => ?_)
                  · exfalso
                    simp only [b2i_eq0, b2i_ne0, Int32.lt_iff_toInt_lt, Int32.le_iff_toInt_le, t_0, t_1, t_2, t_3, t_4, t_5, t_6, t_7, t_8, t_9, t_10, t_11, t_12, t_20, t_24, t_40, t_50, t_60, t_99, t_110, t_255, t_999, t_999999, t_m1, gM, gN, eM, eN, eM1, eN1] at *
                    omega
                  · refine g_ldc2 d_X7_breaks_43 kl_X7_247 ?_
                    refine h_lret d_X7_breaks_46 rfl ?_
                    exact ⟨rfl, _, _, rfl, hR.fr fr_thrown⟩
          · refine g_iload d_X6_breaks_31 rfl ?_
            refine g_if_lt d_X6_breaks_33 (fun c33 => ?_) (fun c33 => ?_)
            · refine g_ldc2 d_X6_breaks_42 kl_X6_313 ?_
              refine h_lret d_X6_breaks_45 rfl ?_
              refine ⟨_, rfl, ?_⟩
              refine MtH.of [some (.ref 360), some (.int x), some (.int y), some (.int u), some (.int z), none, none, none, none, none, none, none] pl_X7 rfl rfl ?_
              refine g_aload_n d_X7_breaks_0 rfl ?_
              refine g_iconst d_X7_breaks_1 ik_0 ?_
              refine mm_putI d_X7_breaks_2 fl_7_62 sp_M rfl ?_
              refine g_aload_n d_X7_breaks_5 rfl ?_
              refine g_iload_n d_X7_breaks_6 rfl ?_
              refine h_V1i d_X7_breaks_7 cl_7_204 (m7_isLoad ((hs_j (by decide)).trans wN)) sp_M (by decide) rfl (Nat.le_of_ble_eq_true rfl) (by decide) ?_
              refine g_if_eq d_X7_breaks_10 (fun c10 => ?_) (fun c10 => ?_)
              · refine g_ldc2 d_X7_breaks_43 kl_X7_247 ?_
                refine h_lret d_X7_breaks_46 rfl ?_
                exact ⟨rfl, _, _, rfl, hR.fr fr_thrown⟩
              · refine g_iload_n d_X7_breaks_13 rfl ?_
                refine g_iconst d_X7_breaks_14 ik_0 ?_
                refine g_bipush d_X7_breaks_15 bk_60 ?_
                refine h_S3i d_X7_breaks_17 cl_7_70 m7_in (Nat.le_of_ble_eq_true rfl) (by decide) ?_
                refine g_if_eq d_X7_breaks_20 (fun c20 => ?_) (fun c20 => ?_)
                · refine g_ldc2 d_X7_breaks_43 kl_X7_247 ?_
                  refine h_lret d_X7_breaks_46 rfl ?_
                  exact ⟨rfl, _, _, rfl, hR.fr fr_thrown⟩
                · refine g_iload_n d_X7_breaks_23 rfl ?_
                  refine g_iconst d_X7_breaks_24 ik_0 ?_
                  refine g_bipush d_X7_breaks_25 bk_10 ?_
                  refine h_S3i d_X7_breaks_27 cl_7_70 m7_in (Nat.le_of_ble_eq_true rfl) (by decide) ?_
                  refine g_if_eq d_X7_breaks_30 (fun c30 => ?_) (fun c30 => ?_)
                  · refine g_ldc2 d_X7_breaks_43 kl_X7_247 ?_
                    refine h_lret d_X7_breaks_46 rfl ?_
                    exact ⟨rfl, _, _, rfl, hR.fr fr_thrown⟩
                  · refine g_iload d_X7_breaks_33 rfl ?_
                    refine g_iconst d_X7_breaks_35 ik_0 ?_
                    refine g_iconst d_X7_breaks_36 ik_1 ?_
                    refine h_S3i d_X7_breaks_37 cl_7_70 m7_in (Nat.le_of_ble_eq_true rfl) (by decide) ?_
                    refine g_if_ne d_X7_breaks_40 (fun c40 => ?_) (fun c40 => ?_)
                    · exfalso
                      simp only [b2i_eq0, b2i_ne0, Int32.lt_iff_toInt_lt, Int32.le_iff_toInt_le, t_0, t_1, t_2, t_3, t_4, t_5, t_6, t_7, t_8, t_9, t_10, t_11, t_12, t_20, t_24, t_40, t_50, t_60, t_99, t_110, t_255, t_999, t_999999, t_m1, gM, gN, eM, eN, eM1, eN1] at *
                      omega
                    · refine g_ldc2 d_X7_breaks_43 kl_X7_247 ?_
                      refine h_lret d_X7_breaks_46 rfl ?_
                      exact ⟨rfl, _, _, rfl, hR.fr fr_thrown⟩
            · refine g_iload d_X6_breaks_36 rfl ?_
              refine g_iconst d_X6_breaks_38 ik_1 ?_
              refine g_icmp_le d_X6_breaks_39 (fun c39 => ?_) (fun c39 => ?_)
              · obtain ⟨l, hl, rfl⟩ := rngI (x := x) (B := N) (by simp only [b2i_eq0, b2i_ne0, Int32.lt_iff_toInt_lt, Int32.le_iff_toInt_le, t_0, t_1, t_2, t_3, t_4, t_5, t_6, t_7, t_8, t_9, t_10, t_11, t_12, t_20, t_24, t_40, t_50, t_60, t_99, t_110, t_255, t_999, t_999999, t_m1, gM, gN, eM, eN, eM1, eN1] at *; omega) (by simp only [b2i_eq0, b2i_ne0, Int32.lt_iff_toInt_lt, Int32.le_iff_toInt_le, t_0, t_1, t_2, t_3, t_4, t_5, t_6, t_7, t_8, t_9, t_10, t_11, t_12, t_20, t_24, t_40, t_50, t_60, t_99, t_110, t_255, t_999, t_999999, t_m1, gM, gN, eM, eN, eM1, eN1] at *; omega)
                have el : (nI l).toInt = l := nI_toInt (by omega)
                obtain ⟨n, hn, rfl⟩ := rngI (x := y) (B := 61) (by simp only [b2i_eq0, b2i_ne0, Int32.lt_iff_toInt_lt, Int32.le_iff_toInt_le, t_0, t_1, t_2, t_3, t_4, t_5, t_6, t_7, t_8, t_9, t_10, t_11, t_12, t_20, t_24, t_40, t_50, t_60, t_99, t_110, t_255, t_999, t_999999, t_m1, el, gM, gN, eM, eN, eM1, eN1] at *; omega) (by simp only [b2i_eq0, b2i_ne0, Int32.lt_iff_toInt_lt, Int32.le_iff_toInt_le, t_0, t_1, t_2, t_3, t_4, t_5, t_6, t_7, t_8, t_9, t_10, t_11, t_12, t_20, t_24, t_40, t_50, t_60, t_99, t_110, t_255, t_999, t_999999, t_m1, el, gM, gN, eM, eN, eM1, eN1] at *; omega)
                have en : (nI n).toInt = n := nI_toInt (by omega)
                obtain ⟨p, hp, rfl⟩ := rngI (x := u) (B := 11) (by simp only [b2i_eq0, b2i_ne0, Int32.lt_iff_toInt_lt, Int32.le_iff_toInt_le, t_0, t_1, t_2, t_3, t_4, t_5, t_6, t_7, t_8, t_9, t_10, t_11, t_12, t_20, t_24, t_40, t_50, t_60, t_99, t_110, t_255, t_999, t_999999, t_m1, el, en, gM, gN, eM, eN, eM1, eN1] at *; omega) (by simp only [b2i_eq0, b2i_ne0, Int32.lt_iff_toInt_lt, Int32.le_iff_toInt_le, t_0, t_1, t_2, t_3, t_4, t_5, t_6, t_7, t_8, t_9, t_10, t_11, t_12, t_20, t_24, t_40, t_50, t_60, t_99, t_110, t_255, t_999, t_999999, t_m1, el, en, gM, gN, eM, eN, eM1, eN1] at *; omega)
                have ep : (nI p).toInt = p := nI_toInt (by omega)
                obtain ⟨t0, ht0, rfl⟩ := rngI (x := z) (B := 2) (by simp only [b2i_eq0, b2i_ne0, Int32.lt_iff_toInt_lt, Int32.le_iff_toInt_le, t_0, t_1, t_2, t_3, t_4, t_5, t_6, t_7, t_8, t_9, t_10, t_11, t_12, t_20, t_24, t_40, t_50, t_60, t_99, t_110, t_255, t_999, t_999999, t_m1, el, en, ep, gM, gN, eM, eN, eM1, eN1] at *; omega) (by simp only [b2i_eq0, b2i_ne0, Int32.lt_iff_toInt_lt, Int32.le_iff_toInt_le, t_0, t_1, t_2, t_3, t_4, t_5, t_6, t_7, t_8, t_9, t_10, t_11, t_12, t_20, t_24, t_40, t_50, t_60, t_99, t_110, t_255, t_999, t_999999, t_m1, el, en, ep, gM, gN, eM, eN, eM1, eN1] at *; omega)
                have et0 : (nI t0).toInt = t0 := nI_toInt (by omega)
                obtain ⟨i0, c0, hi0, hi1, hS, hA, hO⟩ := (hZ.resolve_left (fun z => by have := z.1; have := z.2.1; omega)).2.2
                have hI := hS.1
                obtain ⟨a, ha, eo⟩ := hI.opn
                refine g_lconst (v := 0) d_X6_breaks_46 (by decide) ?_
                refine w_lstore (L' := [_, _, _, _, _, _, _, _, _, _, _]) d_X6_breaks_47 rfl rfl rfl ?_
                refine g_iconst d_X6_breaks_49 ik_0 ?_
                refine w_istore (L' := [_, _, _, _, _, _, _, _, _, _, _]) d_X6_breaks_50 rfl rfl rfl ?_
                rw [show mu h w = pu (mu h w) 27 (hv (mu h w) 27) from pu_hv.symm, show (0 : Int64) = lI (smN (brF M N n l a p (hv h 15)) 0) from rfl]
                refine lp_breaks6 hI hl (by omega) eo ha (by omega) (sh1 M (by omega)) rfl (fun g' y8 y9 y10 => ?_) (2 ^ M) 0 (by omega) _ _ _ _
                have h32 := pow5 hM5
                have hdn := dnT M hM5 a ha
                have hA : (smN (brF M N n l a p (hv h 15)) (2 ^ M)) ≤ 2 ^ M * 100000 := smN_le (fun b => brF_le (by omega) hM5 b) (2 ^ M)
                have hA63 : (smN (brF M N n l a p (hv h 15)) (2 ^ M)) < 2 ^ 63 := by
                  have : 2 ^ M * 100000 ≤ 32 * 100000 := Nat.mul_le_mul_right _ h32
                  omega
                have hB40 : (dnN a M) < 2 ^ 40 := by omega
                have hB63 : (dnN a M) < 2 ^ 63 := by omega
                have hG1 : 1 ≤ (Nat.gcd (dnN a M) (smN (brF M N n l a p (hv h 15)) (2 ^ M))) := Nat.gcd_pos_of_pos_left _ (by omega)
                have hG63 : (Nat.gcd (dnN a M) (smN (brF M N n l a p (hv h 15)) (2 ^ M))) < 2 ^ 63 := Nat.lt_of_le_of_lt (Nat.gcd_le_left _ (by omega)) hB63
                have hpa := pop32 a (by omega)
                refine g_lconst (v := 1) d_X6_breaks_111 (by decide) ?_
                refine w_lstore (L' := [_, _, _, _, _, _, _, _, _, _, _]) d_X6_breaks_112 rfl rfl rfl ?_
                refine g_iconst d_X6_breaks_114 ik_0 ?_
                refine w_istore (L' := [_, _, _, _, _, _, _, _, _, _, _]) d_X6_breaks_115 rfl rfl rfl ?_
                rw [show (1 : Int64) = lI (dnN a 0) from rfl]
                refine lp_below ((pu_out (by decide)).trans ((mu_low (by decide)).trans ((hv_at (by decide)).symm.trans hI.hM))) hM5 ((pu_out (by decide)).trans ((mu_low (by decide)).trans ((hv_at (by decide)).symm.trans eo))) ha ?_ M 0 (by omega)
                rcases (show t0 = 0 ∨ t0 = 1 by omega) with rfl | rfl
                · refine g_lconst (v := 1) d_X6_breaks_159 (by decide) ?_
                  refine g_lload d_X6_breaks_160 rfl ?_
                  refine g_lload d_X6_breaks_162 rfl ?_
                  refine h_S2l d_X6_breaks_164 cl_6_321 (m6_gd hA63 hB40) (Nat.le_of_ble_eq_true rfl) (by decide) ?_
                  refine g_mmaxL d_X6_breaks_167 mx_6_325 (Nat.le_of_ble_eq_true rfl) (by decide) ?_
                  rw [if_neg (lI_lt1 hG63 hG1)]
                  refine w_lstore (L' := [_, _, _, _, _, _, _, _, _, _, _]) d_X6_breaks_170 rfl rfl rfl ?_
                  refine g_iload d_X6_breaks_172 rfl ?_
                  refine g_if_ne d_X6_breaks_174 (fun c174 => absurd c174 (by decide)) (fun c174 => ?_)
                  refine g_lload d_X6_breaks_177 rfl ?_
                  refine g_goto d_X6_breaks_179 ?_
                  have hg0 : ¬ lI (Nat.gcd (dnN a M) (smN (brF M N n l a p (hv h 15)) (2 ^ M))) = 0 := fun z => by have := (lI_eq0 hG63).mp z; omega
                  refine g_lload d_X6_breaks_184 rfl ?_
                  refine g_ldiv d_X6_breaks_186 (hg0) ?_
                  rw [lI_div hA63 hG63]
                  refine h_lret d_X6_breaks_187 rfl ?_
                  refine ⟨_, rfl, ?_⟩
                  rw [mu_pu (by decide)]
                  refine MtH.of [some (.ref 360), some (.int (nI l)), some (.int (nI n)), some (.int (nI p)), some (.int 0), none, none, none, none, none, none, none] pl_X7 rfl rfl ?_
                  refine g_aload_n d_X7_breaks_0 rfl ?_
                  refine g_iconst d_X7_breaks_1 ik_0 ?_
                  refine mm_putI d_X7_breaks_2 fl_7_62 sp_M rfl ?_
                  refine g_aload_n d_X7_breaks_5 rfl ?_
                  refine g_iload_n d_X7_breaks_6 rfl ?_
                  refine h_V1i d_X7_breaks_7 cl_7_204 (m7_isLoad ((hs_j (by decide)).trans wN)) sp_M (by decide) rfl (Nat.le_of_ble_eq_true rfl) (by decide) ?_
                  refine g_if_eq d_X7_breaks_10 (fun c10 => ?_) (fun c10 => ?_)
                  · exfalso
                    simp only [b2i_eq0, b2i_ne0, Int32.lt_iff_toInt_lt, Int32.le_iff_toInt_le, t_0, t_1, t_2, t_3, t_4, t_5, t_6, t_7, t_8, t_9, t_10, t_11, t_12, t_20, t_24, t_40, t_50, t_60, t_99, t_110, t_255, t_999, t_999999, t_m1, el, en, ep, gM, gN, eM, eN, eM1, eN1] at *
                    omega
                  · refine g_iload_n d_X7_breaks_13 rfl ?_
                    refine g_iconst d_X7_breaks_14 ik_0 ?_
                    refine g_bipush d_X7_breaks_15 bk_60 ?_
                    refine h_S3i d_X7_breaks_17 cl_7_70 m7_in (Nat.le_of_ble_eq_true rfl) (by decide) ?_
                    refine g_if_eq d_X7_breaks_20 (fun c20 => ?_) (fun c20 => ?_)
                    · exfalso
                      simp only [b2i_eq0, b2i_ne0, Int32.lt_iff_toInt_lt, Int32.le_iff_toInt_le, t_0, t_1, t_2, t_3, t_4, t_5, t_6, t_7, t_8, t_9, t_10, t_11, t_12, t_20, t_24, t_40, t_50, t_60, t_99, t_110, t_255, t_999, t_999999, t_m1, el, en, ep, gM, gN, eM, eN, eM1, eN1] at *
                      omega
                    · refine g_iload_n d_X7_breaks_23 rfl ?_
                      refine g_iconst d_X7_breaks_24 ik_0 ?_
                      refine g_bipush d_X7_breaks_25 bk_10 ?_
                      refine h_S3i d_X7_breaks_27 cl_7_70 m7_in (Nat.le_of_ble_eq_true rfl) (by decide) ?_
                      refine g_if_eq d_X7_breaks_30 (fun c30 => ?_) (fun c30 => ?_)
                      · exfalso
                        simp only [b2i_eq0, b2i_ne0, Int32.lt_iff_toInt_lt, Int32.le_iff_toInt_le, t_0, t_1, t_2, t_3, t_4, t_5, t_6, t_7, t_8, t_9, t_10, t_11, t_12, t_20, t_24, t_40, t_50, t_60, t_99, t_110, t_255, t_999, t_999999, t_m1, el, en, ep, gM, gN, eM, eN, eM1, eN1] at *
                        omega
                      · refine g_iload d_X7_breaks_33 rfl ?_
                        refine g_iconst d_X7_breaks_35 ik_0 ?_
                        refine g_iconst d_X7_breaks_36 ik_1 ?_
                        refine h_S3i d_X7_breaks_37 cl_7_70 m7_in (Nat.le_of_ble_eq_true rfl) (by decide) ?_
                        refine g_if_ne d_X7_breaks_40 (fun c40 => ?_) (fun c40 => absurd c40 (by decide))
                        refine g_aload_n d_X7_breaks_47 rfl ?_
                        refine h_getR d_X7_breaks_48 fl_7_31 sp_M rfl ?_
                        refine g_iconst d_X7_breaks_51 ik_2 ?_
                        refine mm_aldV (k := 2) (v := nI a) d_X7_breaks_52 (j := 8) sp_m_s rfl (by decide) rfl (by omega) (by decide) ((hs_j (by decide)).trans (hS.2.1.1.2.2.2.2.symm.trans eo)) ?_
                        refine w_istore (L' := [_, _, _, _, _, _, _, _, _, _, _, _]) d_X7_breaks_53 rfl rfl rfl ?_
                        refine g_lconst (v := 0) d_X7_breaks_55 (by decide) ?_
                        refine w_lstore (L' := [_, _, _, _, _, _, _, _, _, _, _, _]) d_X7_breaks_56 rfl rfl rfl ?_
                        refine g_iconst d_X7_breaks_58 ik_0 ?_
                        refine w_istore (L' := [_, _, _, _, _, _, _, _, _, _, _, _]) d_X7_breaks_59 rfl rfl rfl ?_
                        rw [show (0 : Int64) = lI (smN (brR M N n l a p (hv h 15)) 0) from rfl]
                        refine lp_breaks7 (w := hset w 0 0 0) hI hl ((hs_j (by decide)).trans wN) ((hs_j (by decide)).trans wM) (hS.2.1.th hM5 hN6) hS.2.2.1.1 (by omega) ha (by omega) (sh1 M (by omega)) rfl (fun w3 y9 y10 y11 hf3 => ?_) (2 ^ M) 0 (by omega) _ _ _ _ FrS.rf
                        rw [br_eq hM5 ha]
                        refine g_ldc2 d_X7_breaks_169 kl_X7_253 ?_
                        refine g_iload d_X7_breaks_172 rfl ?_
                        refine h_S1i d_X7_breaks_174 cl_7_228 (m7_ones (n := a) rfl (by omega)) (Nat.le_of_ble_eq_true rfl) (by decide) ?_
                        refine h_S2l d_X7_breaks_177 cl_7_249 (m7_raised (b := 10) (by omega)) (Nat.le_of_ble_eq_true rfl) (by decide) ?_
                        rw [← hdn.1]
                        refine w_lstore (L' := [_, _, _, _, _, _, _, _, _, _, _, _]) d_X7_breaks_180 rfl rfl rfl ?_
                        refine g_lload d_X7_breaks_182 rfl ?_
                        refine g_lload d_X7_breaks_184 rfl ?_
                        refine h_S2l d_X7_breaks_186 cl_7_255 (m7_gcd hA63 hB63) (Nat.le_of_ble_eq_true rfl) (by decide) ?_
                        refine w_lstore (L' := [_, _, _, _, _, _, _, _, _, _, _, _]) d_X7_breaks_189 rfl rfl rfl ?_
                        have hg0 : ¬ lI (Nat.gcd (dnN a M) (smN (brF M N n l a p (hv h 15)) (2 ^ M))) = 0 := fun z => by have := (lI_eq0 hG63).mp z; omega
                        refine g_iload d_X7_breaks_191 rfl ?_
                        refine g_if_ne d_X7_breaks_193 (fun c193 => absurd c193 (by decide)) (fun c193 => ?_)
                        refine g_lload d_X7_breaks_196 rfl ?_
                        refine g_lload d_X7_breaks_198 rfl ?_
                        refine g_ldiv d_X7_breaks_200 (hg0) ?_
                        rw [lI_div hA63 hG63]
                        refine g_goto d_X7_breaks_201 ?_
                        refine h_lret d_X7_breaks_209 rfl ?_
                        exact ⟨rfl, _, _, rfl, (hR.fc fc_27).fr (fr_thrown.tr hf3.fr)⟩
                · refine g_lconst (v := 1) d_X6_breaks_159 (by decide) ?_
                  refine g_lload d_X6_breaks_160 rfl ?_
                  refine g_lload d_X6_breaks_162 rfl ?_
                  refine h_S2l d_X6_breaks_164 cl_6_321 (m6_gd hA63 hB40) (Nat.le_of_ble_eq_true rfl) (by decide) ?_
                  refine g_mmaxL d_X6_breaks_167 mx_6_325 (Nat.le_of_ble_eq_true rfl) (by decide) ?_
                  rw [if_neg (lI_lt1 hG63 hG1)]
                  refine w_lstore (L' := [_, _, _, _, _, _, _, _, _, _, _]) d_X6_breaks_170 rfl rfl rfl ?_
                  refine g_iload d_X6_breaks_172 rfl ?_
                  refine g_if_ne d_X6_breaks_174 (fun c174 => ?_) (fun c174 => absurd c174 (by decide))
                  refine g_lload d_X6_breaks_182 rfl ?_
                  have hg0 : ¬ lI (Nat.gcd (dnN a M) (smN (brF M N n l a p (hv h 15)) (2 ^ M))) = 0 := fun z => by have := (lI_eq0 hG63).mp z; omega
                  refine g_lload d_X6_breaks_184 rfl ?_
                  refine g_ldiv d_X6_breaks_186 (hg0) ?_
                  rw [lI_div hB63 hG63]
                  refine h_lret d_X6_breaks_187 rfl ?_
                  refine ⟨_, rfl, ?_⟩
                  rw [mu_pu (by decide)]
                  refine MtH.of [some (.ref 360), some (.int (nI l)), some (.int (nI n)), some (.int (nI p)), some (.int 1), none, none, none, none, none, none, none] pl_X7 rfl rfl ?_
                  refine g_aload_n d_X7_breaks_0 rfl ?_
                  refine g_iconst d_X7_breaks_1 ik_0 ?_
                  refine mm_putI d_X7_breaks_2 fl_7_62 sp_M rfl ?_
                  refine g_aload_n d_X7_breaks_5 rfl ?_
                  refine g_iload_n d_X7_breaks_6 rfl ?_
                  refine h_V1i d_X7_breaks_7 cl_7_204 (m7_isLoad ((hs_j (by decide)).trans wN)) sp_M (by decide) rfl (Nat.le_of_ble_eq_true rfl) (by decide) ?_
                  refine g_if_eq d_X7_breaks_10 (fun c10 => ?_) (fun c10 => ?_)
                  · exfalso
                    simp only [b2i_eq0, b2i_ne0, Int32.lt_iff_toInt_lt, Int32.le_iff_toInt_le, t_0, t_1, t_2, t_3, t_4, t_5, t_6, t_7, t_8, t_9, t_10, t_11, t_12, t_20, t_24, t_40, t_50, t_60, t_99, t_110, t_255, t_999, t_999999, t_m1, el, en, ep, gM, gN, eM, eN, eM1, eN1] at *
                    omega
                  · refine g_iload_n d_X7_breaks_13 rfl ?_
                    refine g_iconst d_X7_breaks_14 ik_0 ?_
                    refine g_bipush d_X7_breaks_15 bk_60 ?_
                    refine h_S3i d_X7_breaks_17 cl_7_70 m7_in (Nat.le_of_ble_eq_true rfl) (by decide) ?_
                    refine g_if_eq d_X7_breaks_20 (fun c20 => ?_) (fun c20 => ?_)
                    · exfalso
                      simp only [b2i_eq0, b2i_ne0, Int32.lt_iff_toInt_lt, Int32.le_iff_toInt_le, t_0, t_1, t_2, t_3, t_4, t_5, t_6, t_7, t_8, t_9, t_10, t_11, t_12, t_20, t_24, t_40, t_50, t_60, t_99, t_110, t_255, t_999, t_999999, t_m1, el, en, ep, gM, gN, eM, eN, eM1, eN1] at *
                      omega
                    · refine g_iload_n d_X7_breaks_23 rfl ?_
                      refine g_iconst d_X7_breaks_24 ik_0 ?_
                      refine g_bipush d_X7_breaks_25 bk_10 ?_
                      refine h_S3i d_X7_breaks_27 cl_7_70 m7_in (Nat.le_of_ble_eq_true rfl) (by decide) ?_
                      refine g_if_eq d_X7_breaks_30 (fun c30 => ?_) (fun c30 => ?_)
                      · exfalso
                        simp only [b2i_eq0, b2i_ne0, Int32.lt_iff_toInt_lt, Int32.le_iff_toInt_le, t_0, t_1, t_2, t_3, t_4, t_5, t_6, t_7, t_8, t_9, t_10, t_11, t_12, t_20, t_24, t_40, t_50, t_60, t_99, t_110, t_255, t_999, t_999999, t_m1, el, en, ep, gM, gN, eM, eN, eM1, eN1] at *
                        omega
                      · refine g_iload d_X7_breaks_33 rfl ?_
                        refine g_iconst d_X7_breaks_35 ik_0 ?_
                        refine g_iconst d_X7_breaks_36 ik_1 ?_
                        refine h_S3i d_X7_breaks_37 cl_7_70 m7_in (Nat.le_of_ble_eq_true rfl) (by decide) ?_
                        refine g_if_ne d_X7_breaks_40 (fun c40 => ?_) (fun c40 => absurd c40 (by decide))
                        refine g_aload_n d_X7_breaks_47 rfl ?_
                        refine h_getR d_X7_breaks_48 fl_7_31 sp_M rfl ?_
                        refine g_iconst d_X7_breaks_51 ik_2 ?_
                        refine mm_aldV (k := 2) (v := nI a) d_X7_breaks_52 (j := 8) sp_m_s rfl (by decide) rfl (by omega) (by decide) ((hs_j (by decide)).trans (hS.2.1.1.2.2.2.2.symm.trans eo)) ?_
                        refine w_istore (L' := [_, _, _, _, _, _, _, _, _, _, _, _]) d_X7_breaks_53 rfl rfl rfl ?_
                        refine g_lconst (v := 0) d_X7_breaks_55 (by decide) ?_
                        refine w_lstore (L' := [_, _, _, _, _, _, _, _, _, _, _, _]) d_X7_breaks_56 rfl rfl rfl ?_
                        refine g_iconst d_X7_breaks_58 ik_0 ?_
                        refine w_istore (L' := [_, _, _, _, _, _, _, _, _, _, _, _]) d_X7_breaks_59 rfl rfl rfl ?_
                        rw [show (0 : Int64) = lI (smN (brR M N n l a p (hv h 15)) 0) from rfl]
                        refine lp_breaks7 (w := hset w 0 0 0) hI hl ((hs_j (by decide)).trans wN) ((hs_j (by decide)).trans wM) (hS.2.1.th hM5 hN6) hS.2.2.1.1 (by omega) ha (by omega) (sh1 M (by omega)) rfl (fun w3 y9 y10 y11 hf3 => ?_) (2 ^ M) 0 (by omega) _ _ _ _ FrS.rf
                        rw [br_eq hM5 ha]
                        refine g_ldc2 d_X7_breaks_169 kl_X7_253 ?_
                        refine g_iload d_X7_breaks_172 rfl ?_
                        refine h_S1i d_X7_breaks_174 cl_7_228 (m7_ones (n := a) rfl (by omega)) (Nat.le_of_ble_eq_true rfl) (by decide) ?_
                        refine h_S2l d_X7_breaks_177 cl_7_249 (m7_raised (b := 10) (by omega)) (Nat.le_of_ble_eq_true rfl) (by decide) ?_
                        rw [← hdn.1]
                        refine w_lstore (L' := [_, _, _, _, _, _, _, _, _, _, _, _]) d_X7_breaks_180 rfl rfl rfl ?_
                        refine g_lload d_X7_breaks_182 rfl ?_
                        refine g_lload d_X7_breaks_184 rfl ?_
                        refine h_S2l d_X7_breaks_186 cl_7_255 (m7_gcd hA63 hB63) (Nat.le_of_ble_eq_true rfl) (by decide) ?_
                        refine w_lstore (L' := [_, _, _, _, _, _, _, _, _, _, _, _]) d_X7_breaks_189 rfl rfl rfl ?_
                        have hg0 : ¬ lI (Nat.gcd (dnN a M) (smN (brF M N n l a p (hv h 15)) (2 ^ M))) = 0 := fun z => by have := (lI_eq0 hG63).mp z; omega
                        refine g_iload d_X7_breaks_191 rfl ?_
                        refine g_if_ne d_X7_breaks_193 (fun c193 => ?_) (fun c193 => absurd c193 (by decide))
                        refine g_lload d_X7_breaks_204 rfl ?_
                        refine g_lload d_X7_breaks_206 rfl ?_
                        refine g_ldiv d_X7_breaks_208 (hg0) ?_
                        rw [lI_div hB63 hG63]
                        refine h_lret d_X7_breaks_209 rfl ?_
                        exact ⟨rfl, _, _, rfl, (hR.fc fc_27).fr (fr_thrown.tr hf3.fr)⟩
              · refine g_ldc2 d_X6_breaks_42 kl_X6_313 ?_
                refine h_lret d_X6_breaks_45 rfl ?_
                refine ⟨_, rfl, ?_⟩
                refine MtH.of [some (.ref 360), some (.int x), some (.int y), some (.int u), some (.int z), none, none, none, none, none, none, none] pl_X7 rfl rfl ?_
                refine g_aload_n d_X7_breaks_0 rfl ?_
                refine g_iconst d_X7_breaks_1 ik_0 ?_
                refine mm_putI d_X7_breaks_2 fl_7_62 sp_M rfl ?_
                refine g_aload_n d_X7_breaks_5 rfl ?_
                refine g_iload_n d_X7_breaks_6 rfl ?_
                refine h_V1i d_X7_breaks_7 cl_7_204 (m7_isLoad ((hs_j (by decide)).trans wN)) sp_M (by decide) rfl (Nat.le_of_ble_eq_true rfl) (by decide) ?_
                refine g_if_eq d_X7_breaks_10 (fun c10 => ?_) (fun c10 => ?_)
                · refine g_ldc2 d_X7_breaks_43 kl_X7_247 ?_
                  refine h_lret d_X7_breaks_46 rfl ?_
                  exact ⟨rfl, _, _, rfl, hR.fr fr_thrown⟩
                · refine g_iload_n d_X7_breaks_13 rfl ?_
                  refine g_iconst d_X7_breaks_14 ik_0 ?_
                  refine g_bipush d_X7_breaks_15 bk_60 ?_
                  refine h_S3i d_X7_breaks_17 cl_7_70 m7_in (Nat.le_of_ble_eq_true rfl) (by decide) ?_
                  refine g_if_eq d_X7_breaks_20 (fun c20 => ?_) (fun c20 => ?_)
                  · refine g_ldc2 d_X7_breaks_43 kl_X7_247 ?_
                    refine h_lret d_X7_breaks_46 rfl ?_
                    exact ⟨rfl, _, _, rfl, hR.fr fr_thrown⟩
                  · refine g_iload_n d_X7_breaks_23 rfl ?_
                    refine g_iconst d_X7_breaks_24 ik_0 ?_
                    refine g_bipush d_X7_breaks_25 bk_10 ?_
                    refine h_S3i d_X7_breaks_27 cl_7_70 m7_in (Nat.le_of_ble_eq_true rfl) (by decide) ?_
                    refine g_if_eq d_X7_breaks_30 (fun c30 => ?_) (fun c30 => ?_)
                    · refine g_ldc2 d_X7_breaks_43 kl_X7_247 ?_
                      refine h_lret d_X7_breaks_46 rfl ?_
                      exact ⟨rfl, _, _, rfl, hR.fr fr_thrown⟩
                    · refine g_iload d_X7_breaks_33 rfl ?_
                      refine g_iconst d_X7_breaks_35 ik_0 ?_
                      refine g_iconst d_X7_breaks_36 ik_1 ?_
                      refine h_S3i d_X7_breaks_37 cl_7_70 m7_in (Nat.le_of_ble_eq_true rfl) (by decide) ?_
                      refine g_if_ne d_X7_breaks_40 (fun c40 => ?_) (fun c40 => ?_)
                      · exfalso
                        simp only [b2i_eq0, b2i_ne0, Int32.lt_iff_toInt_lt, Int32.le_iff_toInt_le, t_0, t_1, t_2, t_3, t_4, t_5, t_6, t_7, t_8, t_9, t_10, t_11, t_12, t_20, t_24, t_40, t_50, t_60, t_99, t_110, t_255, t_999, t_999999, t_m1, gM, gN, eM, eN, eM1, eN1] at *
                        omega
                      · refine g_ldc2 d_X7_breaks_43 kl_X7_247 ?_
                        refine h_lret d_X7_breaks_46 rfl ?_
                        exact ⟨rfl, _, _, rfl, hR.fr fr_thrown⟩

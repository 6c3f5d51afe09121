/-! THE REFERENCE: its small functions, its tick -/
def AR (A j n : Nat) : Prop := SP[A]? = some (8, List.replicate n none) ∧ A = 360 + j ∧ j < 18
theorem ar_d : AR 367 7 17 := ⟨sp_m_d, rfl, by decide⟩
theorem ar_s : AR 368 8 42 := ⟨sp_m_s, rfl, by decide⟩
theorem ar_e : AR 369 9 17 := ⟨sp_m_e, rfl, by decide⟩
theorem ar_w : AR 370 10 42 := ⟨sp_m_w, rfl, by decide⟩
theorem m7_in {h : Hv} {v a b : Int32} : MtF M_X7_in 0 [.int v, .int a, .int b] (h) (some (.int (b2i (¬ v < a ∧ ¬ b < v)))) (h) := by
  refine MtF.of [some (.int v), some (.int a), some (.int b)] pl_X7 rfl rfl ?_
  refine g_iload_n d_X7_in_0 rfl ?_
  refine g_iload_n d_X7_in_1 rfl ?_
  refine g_icmp_lt d_X7_in_2 (fun c2 => ?_) (fun c2 => ?_)
  · refine g_iconst d_X7_in_14 ik_0 ?_
    refine h_zret d_X7_in_15 rfl rfl ?_
    exact pF (by simp [b2i, *]) rfl
  · refine g_iload_n d_X7_in_5 rfl ?_
    refine g_iload_n d_X7_in_6 rfl ?_
    refine g_icmp_gt d_X7_in_7 (fun c7 => ?_) (fun c7 => ?_)
    · refine g_iconst d_X7_in_14 ik_0 ?_
      refine h_zret d_X7_in_15 rfl rfl ?_
      exact pF (by simp [b2i, *]) rfl
    · refine g_iconst d_X7_in_10 ik_1 ?_
      refine g_goto d_X7_in_11 ?_
      refine h_zret d_X7_in_15 rfl rfl ?_
      exact pF (by simp [b2i, *]) rfl
theorem m7_has {h : Hv} {v k : Int32} : MtF M_X7_has 0 [.int v, .int k] (h) (some (.int (b2i (v >>> (k &&& 31) &&& 1 = 1)))) (h) := by
  refine MtF.of [some (.int v), some (.int k)] pl_X7 rfl rfl ?_
  refine g_iload_n d_X7_has_0 rfl ?_
  refine g_iload_n d_X7_has_1 rfl ?_
  refine g_ishr d_X7_has_2 ?_
  refine g_iconst d_X7_has_3 ik_1 ?_
  refine g_iand d_X7_has_4 ?_
  refine g_iconst d_X7_has_5 ik_1 ?_
  refine g_icmp_ne d_X7_has_6 (fun c6 => ?_) (fun c6 => ?_)
  · refine g_iconst d_X7_has_13 ik_0 ?_
    refine h_zret d_X7_has_14 rfl rfl ?_
    exact pF (by simp [b2i, *]) rfl
  · refine g_iconst d_X7_has_9 ik_1 ?_
    refine g_goto d_X7_has_10 ?_
    refine h_zret d_X7_has_14 rfl rfl ?_
    exact pF (by simp [b2i, *]) rfl
theorem m7_washes {h : Hv} {v : Int32} : MtF M_X7_washes 0 [.int v] (h) (some (.int (b2i (¬ 4 ≤ v)))) (h) := by
  refine MtF.of [some (.int v)] pl_X7 rfl rfl ?_
  refine g_iload_n d_X7_washes_0 rfl ?_
  refine g_iconst d_X7_washes_1 ik_4 ?_
  refine g_icmp_ge d_X7_washes_2 (fun c2 => ?_) (fun c2 => ?_)
  · refine g_iconst d_X7_washes_9 ik_0 ?_
    refine h_zret d_X7_washes_10 rfl rfl ?_
    exact pF (by simp [b2i, *]) rfl
  · refine g_iconst d_X7_washes_5 ik_1 ?_
    refine g_goto d_X7_washes_6 ?_
    refine h_zret d_X7_washes_10 rfl rfl ?_
    exact pF (by simp [b2i, *]) rfl
def clrN (n : Nat) : Nat := (nI n &&& (nI n - 1)).toNatClampNeg
theorem clr_ok : ∀ n, n < 64 → 0 < n → nI n &&& (nI n - 1) = nI (clrN n) ∧ clrN n < n ∧ popN (clrN n) + 1 = popN n := by decide +kernel
theorem lp_ones {h : Hv} {z : Int32} {r : Int32} : ∀ (n c : Nat), n < 64 → r = nI (c + popN n) → GdH M_X7_ones 0 4 [some (.int z), some (.int (nI c)), some (.int (nI n))] [] h (fun v' h' => v' = some (.int r) ∧ h' = h) := by
  intro n
  induction n using Nat.strongRecOn with
  | _ n ih =>
    intro c hn hr
    rcases Nat.eq_zero_or_pos n with e | e
    · subst e
      refine g_iload_n d_X7_ones_4 rfl ?_
      refine g_if_eq d_X7_ones_5 (fun c5 => ?_) (fun c5 => absurd (show nI 0 = 0 from rfl) c5)
      refine g_iload_n d_X7_ones_20 rfl ?_
      refine h_iret d_X7_ones_21 rfl ?_
      exact pF (by rw [hr, show popN 0 = 0 from by decide]; rfl) rfl
    · obtain ⟨e1, e2, e3⟩ := clr_ok n hn e
      refine g_iload_n d_X7_ones_4 rfl ?_
      refine g_if_eq d_X7_ones_5 (fun c5 => absurd c5 (nI_ne0 e (by omega))) (fun c5 => ?_)
      refine w_iinc (L' := [_, _, _]) d_X7_ones_8 ik_1 rfl rfl rfl rfl ?_
      refine g_iload_n d_X7_ones_11 rfl ?_
      refine g_iload_n d_X7_ones_12 rfl ?_
      refine g_iconst d_X7_ones_13 ik_1 ?_
      refine g_isub d_X7_ones_14 ?_
      refine g_iand d_X7_ones_15 ?_
      rw [e1]
      refine w_istore_n (L' := [_, _, _]) d_X7_ones_16 rfl rfl rfl ?_
      refine g_goto d_X7_ones_17 ?_
      rw [nI_1]
      exact ih (clrN n) e2 (c + 1) (by omega) (by rw [hr, ← e3]; congr 1; omega)
theorem m7_ones {h : Hv} {z : Int32} {n : Nat} (ez : z = nI n) (hn : n < 64) : MtF M_X7_ones 0 [.int z] (h) (some (.int (nI (popN n)))) (h) := by
  subst ez
  refine MtF.of [some (.int (nI n)), none, none] pl_X7 rfl rfl ?_
  refine g_iconst d_X7_ones_0 ik_0 ?_
  refine w_istore_n (L' := [_, _, _]) d_X7_ones_1 rfl rfl rfl ?_
  refine g_iload_n d_X7_ones_2 rfl ?_
  refine w_istore_n (L' := [_, _, _]) d_X7_ones_3 rfl rfl rfl ?_
  exact lp_ones n 0 hn (by rw [Nat.zero_add])
/-- the reference's rows hold the hall g -/
def RepM (M N : Nat) (g w : Hv) (ja jb : Nat) : Prop :=
  (g 0 0 = w jb 1 ∧ g 0 1 = w jb 0 ∧ g 0 2 = w ja 0 ∧ g 0 3 = w ja 1 ∧ g 0 4 = w jb 2) ∧
  (∀ k, k < M → g 1 k = w ja (2 + k) ∧ g 2 k = w ja (7 + k) ∧ g 3 k = w ja (12 + k) ∧ g 4 k = w jb (3 + k) ∧ g 5 k = w jb (8 + k) ∧ g 6 k = w jb (13 + k)) ∧
  (∀ l, l < N → g 7 l = w jb (18 + l) ∧ g 8 l = w jb (24 + l) ∧ g 9 l = w jb (30 + l) ∧ (g 9 l = 2 → g 10 l = w jb (36 + l))) ∧
  (∀ j, j < N → g 11 j = w 11 j)
/-- what a tick of the reference leaves as it was -/
def FrM (M : Nat) (w w' : Hv) (jb : Nat) : Prop := ∀ x y, (x ≠ jb ∨ (13 + M ≤ y ∧ y < 18)) → ¬ (x = 0 ∧ y = 21) → w' x y = w x y
theorem FrM.rf {M : Nat} {w : Hv} {jb : Nat} : FrM M w w jb := fun _ _ _ _ => rfl
theorem FrM.tr {M : Nat} {w w' w'' : Hv} {jb : Nat} (h1 : FrM M w w' jb) (h2 : FrM M w' w'' jb) : FrM M w w'' jb := fun x y a b => (h2 x y a b).trans (h1 x y a b)
def HL (M N : Nat) (g : Hv) : Prop := M ≤ 5 ∧ N ≤ 6 ∧ (∀ k, k < M → ∃ a b c d, 1 ≤ a ∧ a ≤ 5 ∧ g 1 k = nI a ∧ 1 ≤ b ∧ b ≤ 9 ∧ g 2 k = nI b ∧ c ≤ 5 ∧ g 3 k = nI c ∧ d ≤ 999 ∧ g 6 k = nI d) ∧
  (∀ l, l < N → ∃ a b, 1 ≤ a ∧ a ≤ 9 ∧ g 7 l = nI a ∧ b ≤ 99 ∧ g 8 l = nI b)
theorem HI.hl {M N : Nat} {g : Hv} (h : HI M N g) : HL M N g := ⟨h.hM5, h.hN6, h.mach, h.load⟩
theorem HL.s4 {M N : Nat} {g : Hv} {k : Nat} {v : Int32} (h : HL M N g) : HL M N (hset g 4 k v) := h
theorem clampT {v : Int32} (h : 1 ≤ v) : (if 1 < v then v else 1) = v := by
  rcases Int32.lt_or_eq_of_le h with q | q
  · rw [if_pos q]
  · rw [if_neg (by rw [← q]; decide)]; exact q
theorem clampF {v : Int32} (h : ¬ 1 ≤ v) : (if 1 < v then v else 1) = 1 := if_neg (fun q => h (Int32.le_of_lt q))
theorem m7_lasts1 {h w g : Hv} {M N ja jb A a : Nat} (hA : AR A ja 17) (ha : AR a jb 42) (hR : RepM M N g w ja jb) (hI : HL M N g) {k l : Nat} (hk : k < M) (hl : l < N) {z c d : Nat} (hz1 : 1 ≤ z) (hz9 : z ≤ 9) (hc : c ≤ 5) (hd9 : d ≤ 999) (e1 : g 1 k = 1) (e7 : g 7 l = nI z) (e3 : g 3 k = nI c) (e6 : g 6 k = nI d) {m x : Int32} (em : m = nI k) (ex : x = nI l) : MtF M_X7_lastsOf 1 [.ref A, .ref a, .int m, .int x] (mu h w) (some (.int (lastsS g k l))) (mu h w) := by
  subst em
  subst ex
  have hM5 := hI.1
  have hN6 := hI.2.1
  refine MtF.of [some (.ref A), some (.ref a), some (.int (nI k)), some (.int (nI l)), none, none, none, none] pl_X7 rfl rfl ?_
  refine g_aload_n d_X7_lastsOf_0 rfl ?_
  refine g_iconst d_X7_lastsOf_1 ik_2 ?_
  refine g_iload_n d_X7_lastsOf_2 rfl ?_
  refine g_iadd d_X7_lastsOf_3 ?_
  refine mm_aldV (k := (2 + k)) (v := 1) d_X7_lastsOf_4 hA.1 hA.2.1 hA.2.2 (nAdd rfl rfl) (by omega) (by decide) ((hR.2.1 k hk).1.symm.trans e1) ?_
  refine w_istore (L' := [_, _, _, _, _, _, _, _]) d_X7_lastsOf_5 rfl rfl rfl ?_
  refine g_aload_n d_X7_lastsOf_7 rfl ?_
  refine g_bipush d_X7_lastsOf_8 bk_18 ?_
  refine g_iload_n d_X7_lastsOf_10 rfl ?_
  refine g_iadd d_X7_lastsOf_11 ?_
  refine mm_aldV (k := (18 + l)) (v := nI z) d_X7_lastsOf_12 ha.1 ha.2.1 ha.2.2 (nAdd rfl rfl) (by omega) (by decide) ((hR.2.2.1 l hl).1.symm.trans e7) ?_
  refine w_istore (L' := [_, _, _, _, _, _, _, _]) d_X7_lastsOf_13 rfl rfl rfl ?_
  refine g_aload_n d_X7_lastsOf_15 rfl ?_
  refine g_bipush d_X7_lastsOf_16 bk_12 ?_
  refine g_iload_n d_X7_lastsOf_18 rfl ?_
  refine g_iadd d_X7_lastsOf_19 ?_
  refine mm_aldV (k := (12 + k)) (v := nI c) d_X7_lastsOf_20 hA.1 hA.2.1 hA.2.2 (nAdd rfl rfl) (by omega) (by decide) ((hR.2.1 k hk).2.2.1.symm.trans e3) ?_
  refine w_istore (L' := [_, _, _, _, _, _, _, _]) d_X7_lastsOf_21 rfl rfl rfl ?_
  refine g_iload d_X7_lastsOf_23 rfl ?_
  refine h_S1i d_X7_lastsOf_25 cl_7_152 m7_washes (Nat.le_of_ble_eq_true rfl) (by decide) ?_
  refine g_if_eq d_X7_lastsOf_28 (fun c28 => absurd c28 (show ¬ b2i (¬ (4 : Int32) ≤ 1) = 0 by decide)) (fun c28 => ?_)
  refine g_iload d_X7_lastsOf_31 rfl ?_
  refine g_iconst d_X7_lastsOf_33 ik_2 ?_
  refine g_icmp_ne d_X7_lastsOf_34 (fun c34 => ?_) (fun c34 => absurd c34 (by decide))
  refine g_iload d_X7_lastsOf_47 rfl ?_
  refine g_iload d_X7_lastsOf_49 rfl ?_
  refine g_iadd d_X7_lastsOf_51 ?_
  refine w_istore (L' := [_, _, _, _, _, _, _, _]) d_X7_lastsOf_52 rfl rfl rfl ?_
  refine g_iload d_X7_lastsOf_54 rfl ?_
  refine g_iload d_X7_lastsOf_56 rfl ?_
  refine g_iconst d_X7_lastsOf_58 ik_3 ?_
  refine g_icmp_ne d_X7_lastsOf_59 (fun c59 => ?_) (fun c59 => absurd c59 (by decide))
  refine g_iconst d_X7_lastsOf_73 ik_0 ?_
  refine g_iadd d_X7_lastsOf_74 ?_
  refine w_istore (L' := [_, _, _, _, _, _, _, _]) d_X7_lastsOf_75 rfl rfl rfl ?_
  refine g_iload d_X7_lastsOf_77 rfl ?_
  refine g_iconst d_X7_lastsOf_79 ik_1 ?_
  refine g_icmp_ge d_X7_lastsOf_80 (fun c80 => ?_) (fun c80 => absurd (by rw [nI_add, show (0 : Int32) = nI 0 from rfl, nI_add]; exact nI_le (a := 1) (by omega) (by omega)) c80)
  refine g_iload d_X7_lastsOf_87 rfl ?_
  refine h_iret d_X7_lastsOf_89 rfl ?_
  exact pF (by simp [lastsS, e1, e7, e3]) rfl
theorem m7_lasts2 {h w g : Hv} {M N ja jb A a : Nat} (hA : AR A ja 17) (ha : AR a jb 42) (hR : RepM M N g w ja jb) (hI : HL M N g) {k l : Nat} (hk : k < M) (hl : l < N) {z c d : Nat} (hz1 : 1 ≤ z) (hz9 : z ≤ 9) (hc : c ≤ 5) (hd9 : d ≤ 999) (e1 : g 1 k = 2) (e7 : g 7 l = nI z) (e3 : g 3 k = nI c) (e6 : g 6 k = nI d) {m x : Int32} (em : m = nI k) (ex : x = nI l) : MtF M_X7_lastsOf 1 [.ref A, .ref a, .int m, .int x] (mu h w) (some (.int (lastsS g k l))) (mu h w) := by
  subst em
  subst ex
  have hM5 := hI.1
  have hN6 := hI.2.1
  refine MtF.of [some (.ref A), some (.ref a), some (.int (nI k)), some (.int (nI l)), none, none, none, none] pl_X7 rfl rfl ?_
  refine g_aload_n d_X7_lastsOf_0 rfl ?_
  refine g_iconst d_X7_lastsOf_1 ik_2 ?_
  refine g_iload_n d_X7_lastsOf_2 rfl ?_
  refine g_iadd d_X7_lastsOf_3 ?_
  refine mm_aldV (k := (2 + k)) (v := 2) d_X7_lastsOf_4 hA.1 hA.2.1 hA.2.2 (nAdd rfl rfl) (by omega) (by decide) ((hR.2.1 k hk).1.symm.trans e1) ?_
  refine w_istore (L' := [_, _, _, _, _, _, _, _]) d_X7_lastsOf_5 rfl rfl rfl ?_
  refine g_aload_n d_X7_lastsOf_7 rfl ?_
  refine g_bipush d_X7_lastsOf_8 bk_18 ?_
  refine g_iload_n d_X7_lastsOf_10 rfl ?_
  refine g_iadd d_X7_lastsOf_11 ?_
  refine mm_aldV (k := (18 + l)) (v := nI z) d_X7_lastsOf_12 ha.1 ha.2.1 ha.2.2 (nAdd rfl rfl) (by omega) (by decide) ((hR.2.2.1 l hl).1.symm.trans e7) ?_
  refine w_istore (L' := [_, _, _, _, _, _, _, _]) d_X7_lastsOf_13 rfl rfl rfl ?_
  refine g_aload_n d_X7_lastsOf_15 rfl ?_
  refine g_bipush d_X7_lastsOf_16 bk_12 ?_
  refine g_iload_n d_X7_lastsOf_18 rfl ?_
  refine g_iadd d_X7_lastsOf_19 ?_
  refine mm_aldV (k := (12 + k)) (v := nI c) d_X7_lastsOf_20 hA.1 hA.2.1 hA.2.2 (nAdd rfl rfl) (by omega) (by decide) ((hR.2.1 k hk).2.2.1.symm.trans e3) ?_
  refine w_istore (L' := [_, _, _, _, _, _, _, _]) d_X7_lastsOf_21 rfl rfl rfl ?_
  refine g_iload d_X7_lastsOf_23 rfl ?_
  refine h_S1i d_X7_lastsOf_25 cl_7_152 m7_washes (Nat.le_of_ble_eq_true rfl) (by decide) ?_
  refine g_if_eq d_X7_lastsOf_28 (fun c28 => absurd c28 (show ¬ b2i (¬ (4 : Int32) ≤ 2) = 0 by decide)) (fun c28 => ?_)
  refine g_iload d_X7_lastsOf_31 rfl ?_
  refine g_iconst d_X7_lastsOf_33 ik_2 ?_
  refine g_icmp_ne d_X7_lastsOf_34 (fun c34 => absurd c34 (by decide)) (fun c34 => ?_)
  refine g_iload d_X7_lastsOf_37 rfl ?_
  refine g_iload d_X7_lastsOf_39 rfl ?_
  refine g_iadd d_X7_lastsOf_41 ?_
  refine g_iconst d_X7_lastsOf_42 ik_2 ?_
  refine g_idiv d_X7_lastsOf_43 (by decide) ?_
  refine g_goto d_X7_lastsOf_44 ?_
  refine w_istore (L' := [_, _, _, _, _, _, _, _]) d_X7_lastsOf_52 rfl rfl rfl ?_
  refine g_iload d_X7_lastsOf_54 rfl ?_
  refine g_iload d_X7_lastsOf_56 rfl ?_
  refine g_iconst d_X7_lastsOf_58 ik_3 ?_
  refine g_icmp_ne d_X7_lastsOf_59 (fun c59 => ?_) (fun c59 => absurd c59 (by decide))
  refine g_iconst d_X7_lastsOf_73 ik_0 ?_
  refine g_iadd d_X7_lastsOf_74 ?_
  refine w_istore (L' := [_, _, _, _, _, _, _, _]) d_X7_lastsOf_75 rfl rfl rfl ?_
  refine g_iload d_X7_lastsOf_77 rfl ?_
  refine g_iconst d_X7_lastsOf_79 ik_1 ?_
  refine g_icmp_ge d_X7_lastsOf_80 (fun c80 => ?_) (fun c80 => ?_)
  · refine g_iload d_X7_lastsOf_87 rfl ?_
    refine h_iret d_X7_lastsOf_89 rfl ?_
    refine pF ?_ rfl
    simp only [lastsS, e1, e7, e3, Int32.add_zero] at *
    simp only [show ¬ (2 : Int32) = 1 by decide, if_false, if_true]
    first | rw [clampT (by assumption)] | rw [clampF (by assumption)]
  · refine g_iconst d_X7_lastsOf_83 ik_1 ?_
    refine g_goto d_X7_lastsOf_84 ?_
    refine h_iret d_X7_lastsOf_89 rfl ?_
    refine pF ?_ rfl
    simp only [lastsS, e1, e7, e3, Int32.add_zero] at *
    simp only [show ¬ (2 : Int32) = 1 by decide, if_false, if_true]
    first | rw [clampT (by assumption)] | rw [clampF (by assumption)]
theorem m7_lasts3 {h w g : Hv} {M N ja jb A a : Nat} (hA : AR A ja 17) (ha : AR a jb 42) (hR : RepM M N g w ja jb) (hI : HL M N g) {k l : Nat} (hk : k < M) (hl : l < N) {z c d : Nat} (hz1 : 1 ≤ z) (hz9 : z ≤ 9) (hc : c ≤ 5) (hd9 : d ≤ 999) (e1 : g 1 k = 3) (e7 : g 7 l = nI z) (e3 : g 3 k = nI c) (e6 : g 6 k = nI d) {m x : Int32} (em : m = nI k) (ex : x = nI l) : MtF M_X7_lastsOf 1 [.ref A, .ref a, .int m, .int x] (mu h w) (some (.int (lastsS g k l))) (mu h w) := by
  subst em
  subst ex
  have hM5 := hI.1
  have hN6 := hI.2.1
  refine MtF.of [some (.ref A), some (.ref a), some (.int (nI k)), some (.int (nI l)), none, none, none, none] pl_X7 rfl rfl ?_
  refine g_aload_n d_X7_lastsOf_0 rfl ?_
  refine g_iconst d_X7_lastsOf_1 ik_2 ?_
  refine g_iload_n d_X7_lastsOf_2 rfl ?_
  refine g_iadd d_X7_lastsOf_3 ?_
  refine mm_aldV (k := (2 + k)) (v := 3) d_X7_lastsOf_4 hA.1 hA.2.1 hA.2.2 (nAdd rfl rfl) (by omega) (by decide) ((hR.2.1 k hk).1.symm.trans e1) ?_
  refine w_istore (L' := [_, _, _, _, _, _, _, _]) d_X7_lastsOf_5 rfl rfl rfl ?_
  refine g_aload_n d_X7_lastsOf_7 rfl ?_
  refine g_bipush d_X7_lastsOf_8 bk_18 ?_
  refine g_iload_n d_X7_lastsOf_10 rfl ?_
  refine g_iadd d_X7_lastsOf_11 ?_
  refine mm_aldV (k := (18 + l)) (v := nI z) d_X7_lastsOf_12 ha.1 ha.2.1 ha.2.2 (nAdd rfl rfl) (by omega) (by decide) ((hR.2.2.1 l hl).1.symm.trans e7) ?_
  refine w_istore (L' := [_, _, _, _, _, _, _, _]) d_X7_lastsOf_13 rfl rfl rfl ?_
  refine g_aload_n d_X7_lastsOf_15 rfl ?_
  refine g_bipush d_X7_lastsOf_16 bk_12 ?_
  refine g_iload_n d_X7_lastsOf_18 rfl ?_
  refine g_iadd d_X7_lastsOf_19 ?_
  refine mm_aldV (k := (12 + k)) (v := nI c) d_X7_lastsOf_20 hA.1 hA.2.1 hA.2.2 (nAdd rfl rfl) (by omega) (by decide) ((hR.2.1 k hk).2.2.1.symm.trans e3) ?_
  refine w_istore (L' := [_, _, _, _, _, _, _, _]) d_X7_lastsOf_21 rfl rfl rfl ?_
  refine g_iload d_X7_lastsOf_23 rfl ?_
  refine h_S1i d_X7_lastsOf_25 cl_7_152 m7_washes (Nat.le_of_ble_eq_true rfl) (by decide) ?_
  refine g_if_eq d_X7_lastsOf_28 (fun c28 => absurd c28 (show ¬ b2i (¬ (4 : Int32) ≤ 3) = 0 by decide)) (fun c28 => ?_)
  refine g_iload d_X7_lastsOf_31 rfl ?_
  refine g_iconst d_X7_lastsOf_33 ik_2 ?_
  refine g_icmp_ne d_X7_lastsOf_34 (fun c34 => ?_) (fun c34 => absurd c34 (by decide))
  refine g_iload d_X7_lastsOf_47 rfl ?_
  refine g_iload d_X7_lastsOf_49 rfl ?_
  refine g_iadd d_X7_lastsOf_51 ?_
  refine w_istore (L' := [_, _, _, _, _, _, _, _]) d_X7_lastsOf_52 rfl rfl rfl ?_
  refine g_iload d_X7_lastsOf_54 rfl ?_
  refine g_iload d_X7_lastsOf_56 rfl ?_
  refine g_iconst d_X7_lastsOf_58 ik_3 ?_
  refine g_icmp_ne d_X7_lastsOf_59 (fun c59 => absurd c59 (by decide)) (fun c59 => ?_)
  refine g_aload_n d_X7_lastsOf_62 rfl ?_
  refine g_bipush d_X7_lastsOf_63 bk_13 ?_
  refine g_iload_n d_X7_lastsOf_65 rfl ?_
  refine g_iadd d_X7_lastsOf_66 ?_
  refine mm_aldV (k := (13 + k)) (v := nI d) d_X7_lastsOf_67 ha.1 ha.2.1 ha.2.2 (nAdd rfl rfl) (by omega) (by decide) ((hR.2.1 k hk).2.2.2.2.2.symm.trans e6) ?_
  refine g_iconst d_X7_lastsOf_68 ik_3 ?_
  refine g_idiv d_X7_lastsOf_69 (by decide) ?_
  refine g_goto d_X7_lastsOf_70 ?_
  refine g_iadd d_X7_lastsOf_74 ?_
  refine w_istore (L' := [_, _, _, _, _, _, _, _]) d_X7_lastsOf_75 rfl rfl rfl ?_
  refine g_iload d_X7_lastsOf_77 rfl ?_
  refine g_iconst d_X7_lastsOf_79 ik_1 ?_
  refine g_icmp_ge d_X7_lastsOf_80 (fun c80 => ?_) (fun c80 => absurd (by rw [nI_add, show (3 : Int32) = nI 3 from rfl, pk_div (by omega) (by decide) (by decide), nI_add]; exact nI_le (a := 1) (by omega) (by omega)) c80)
  refine g_iload d_X7_lastsOf_87 rfl ?_
  refine h_iret d_X7_lastsOf_89 rfl ?_
  exact pF (by simp [lastsS, e1, e7, e3, e6]) rfl
theorem m7_lasts4 {h w g : Hv} {M N ja jb A a : Nat} (hA : AR A ja 17) (ha : AR a jb 42) (hR : RepM M N g w ja jb) (hI : HL M N g) {k l : Nat} (hk : k < M) (hl : l < N) {z c d : Nat} (hz1 : 1 ≤ z) (hz9 : z ≤ 9) (hc : c ≤ 5) (hd9 : d ≤ 999) (e1 : g 1 k = 4) (e7 : g 7 l = nI z) (e3 : g 3 k = nI c) (e6 : g 6 k = nI d) {m x : Int32} (em : m = nI k) (ex : x = nI l) : MtF M_X7_lastsOf 1 [.ref A, .ref a, .int m, .int x] (mu h w) (some (.int (lastsS g k l))) (mu h w) := by
  subst em
  subst ex
  have hM5 := hI.1
  have hN6 := hI.2.1
  refine MtF.of [some (.ref A), some (.ref a), some (.int (nI k)), some (.int (nI l)), none, none, none, none] pl_X7 rfl rfl ?_
  refine g_aload_n d_X7_lastsOf_0 rfl ?_
  refine g_iconst d_X7_lastsOf_1 ik_2 ?_
  refine g_iload_n d_X7_lastsOf_2 rfl ?_
  refine g_iadd d_X7_lastsOf_3 ?_
  refine mm_aldV (k := (2 + k)) (v := 4) d_X7_lastsOf_4 hA.1 hA.2.1 hA.2.2 (nAdd rfl rfl) (by omega) (by decide) ((hR.2.1 k hk).1.symm.trans e1) ?_
  refine w_istore (L' := [_, _, _, _, _, _, _, _]) d_X7_lastsOf_5 rfl rfl rfl ?_
  refine g_aload_n d_X7_lastsOf_7 rfl ?_
  refine g_bipush d_X7_lastsOf_8 bk_18 ?_
  refine g_iload_n d_X7_lastsOf_10 rfl ?_
  refine g_iadd d_X7_lastsOf_11 ?_
  refine mm_aldV (k := (18 + l)) (v := nI z) d_X7_lastsOf_12 ha.1 ha.2.1 ha.2.2 (nAdd rfl rfl) (by omega) (by decide) ((hR.2.2.1 l hl).1.symm.trans e7) ?_
  refine w_istore (L' := [_, _, _, _, _, _, _, _]) d_X7_lastsOf_13 rfl rfl rfl ?_
  refine g_aload_n d_X7_lastsOf_15 rfl ?_
  refine g_bipush d_X7_lastsOf_16 bk_12 ?_
  refine g_iload_n d_X7_lastsOf_18 rfl ?_
  refine g_iadd d_X7_lastsOf_19 ?_
  refine mm_aldV (k := (12 + k)) (v := nI c) d_X7_lastsOf_20 hA.1 hA.2.1 hA.2.2 (nAdd rfl rfl) (by omega) (by decide) ((hR.2.1 k hk).2.2.1.symm.trans e3) ?_
  refine w_istore (L' := [_, _, _, _, _, _, _, _]) d_X7_lastsOf_21 rfl rfl rfl ?_
  refine g_iload d_X7_lastsOf_23 rfl ?_
  refine h_S1i d_X7_lastsOf_25 cl_7_152 m7_washes (Nat.le_of_ble_eq_true rfl) (by decide) ?_
  refine g_if_eq d_X7_lastsOf_28 (fun c28 => ?_) (fun c28 => absurd (show b2i (¬ (4 : Int32) ≤ 4) = 0 by decide) c28)
  refine g_iload d_X7_lastsOf_90 rfl ?_
  refine g_iconst d_X7_lastsOf_92 ik_2 ?_
  refine g_idiv d_X7_lastsOf_93 (by decide) ?_
  refine g_iload d_X7_lastsOf_94 rfl ?_
  refine g_iadd d_X7_lastsOf_96 ?_
  refine g_iload d_X7_lastsOf_97 rfl ?_
  refine g_iconst d_X7_lastsOf_99 ik_5 ?_
  refine g_icmp_ne d_X7_lastsOf_100 (fun c100 => ?_) (fun c100 => absurd c100 (by decide))
  refine g_iconst d_X7_lastsOf_107 ik_1 ?_
  refine g_iadd d_X7_lastsOf_108 ?_
  refine w_istore (L' := [_, _, _, _, _, _, _, _]) d_X7_lastsOf_109 rfl rfl rfl ?_
  refine g_iload d_X7_lastsOf_111 rfl ?_
  refine g_iconst d_X7_lastsOf_113 ik_1 ?_
  refine g_icmp_ge d_X7_lastsOf_114 (fun c114 => ?_) (fun c114 => absurd (by rw [show (2 : Int32) = nI 2 from rfl, pk_div (by omega) (by decide) (by decide), nI_add, show (1 : Int32) = nI 1 from rfl, nI_add]; exact nI_le (a := 1) (by omega) (by omega)) c114)
  refine g_iload d_X7_lastsOf_121 rfl ?_
  refine h_iret d_X7_lastsOf_123 rfl ?_
  exact pF (by simp [lastsS, e1, e7, e3]) rfl
theorem m7_lasts5 {h w g : Hv} {M N ja jb A a : Nat} (hA : AR A ja 17) (ha : AR a jb 42) (hR : RepM M N g w ja jb) (hI : HL M N g) {k l : Nat} (hk : k < M) (hl : l < N) {z c d : Nat} (hz1 : 1 ≤ z) (hz9 : z ≤ 9) (hc : c ≤ 5) (hd9 : d ≤ 999) (e1 : g 1 k = 5) (e7 : g 7 l = nI z) (e3 : g 3 k = nI c) (e6 : g 6 k = nI d) {m x : Int32} (em : m = nI k) (ex : x = nI l) : MtF M_X7_lastsOf 1 [.ref A, .ref a, .int m, .int x] (mu h w) (some (.int (lastsS g k l))) (mu h w) := by
  subst em
  subst ex
  have hM5 := hI.1
  have hN6 := hI.2.1
  refine MtF.of [some (.ref A), some (.ref a), some (.int (nI k)), some (.int (nI l)), none, none, none, none] pl_X7 rfl rfl ?_
  refine g_aload_n d_X7_lastsOf_0 rfl ?_
  refine g_iconst d_X7_lastsOf_1 ik_2 ?_
  refine g_iload_n d_X7_lastsOf_2 rfl ?_
  refine g_iadd d_X7_lastsOf_3 ?_
  refine mm_aldV (k := (2 + k)) (v := 5) d_X7_lastsOf_4 hA.1 hA.2.1 hA.2.2 (nAdd rfl rfl) (by omega) (by decide) ((hR.2.1 k hk).1.symm.trans e1) ?_
  refine w_istore (L' := [_, _, _, _, _, _, _, _]) d_X7_lastsOf_5 rfl rfl rfl ?_
  refine g_aload_n d_X7_lastsOf_7 rfl ?_
  refine g_bipush d_X7_lastsOf_8 bk_18 ?_
  refine g_iload_n d_X7_lastsOf_10 rfl ?_
  refine g_iadd d_X7_lastsOf_11 ?_
  refine mm_aldV (k := (18 + l)) (v := nI z) d_X7_lastsOf_12 ha.1 ha.2.1 ha.2.2 (nAdd rfl rfl) (by omega) (by decide) ((hR.2.2.1 l hl).1.symm.trans e7) ?_
  refine w_istore (L' := [_, _, _, _, _, _, _, _]) d_X7_lastsOf_13 rfl rfl rfl ?_
  refine g_aload_n d_X7_lastsOf_15 rfl ?_
  refine g_bipush d_X7_lastsOf_16 bk_12 ?_
  refine g_iload_n d_X7_lastsOf_18 rfl ?_
  refine g_iadd d_X7_lastsOf_19 ?_
  refine mm_aldV (k := (12 + k)) (v := nI c) d_X7_lastsOf_20 hA.1 hA.2.1 hA.2.2 (nAdd rfl rfl) (by omega) (by decide) ((hR.2.1 k hk).2.2.1.symm.trans e3) ?_
  refine w_istore (L' := [_, _, _, _, _, _, _, _]) d_X7_lastsOf_21 rfl rfl rfl ?_
  refine g_iload d_X7_lastsOf_23 rfl ?_
  refine h_S1i d_X7_lastsOf_25 cl_7_152 m7_washes (Nat.le_of_ble_eq_true rfl) (by decide) ?_
  refine g_if_eq d_X7_lastsOf_28 (fun c28 => ?_) (fun c28 => absurd (show b2i (¬ (4 : Int32) ≤ 5) = 0 by decide) c28)
  refine g_iload d_X7_lastsOf_90 rfl ?_
  refine g_iconst d_X7_lastsOf_92 ik_2 ?_
  refine g_idiv d_X7_lastsOf_93 (by decide) ?_
  refine g_iload d_X7_lastsOf_94 rfl ?_
  refine g_iadd d_X7_lastsOf_96 ?_
  refine g_iload d_X7_lastsOf_97 rfl ?_
  refine g_iconst d_X7_lastsOf_99 ik_5 ?_
  refine g_icmp_ne d_X7_lastsOf_100 (fun c100 => absurd c100 (by decide)) (fun c100 => ?_)
  refine g_iconst d_X7_lastsOf_103 ik_0 ?_
  refine g_goto d_X7_lastsOf_104 ?_
  refine g_iadd d_X7_lastsOf_108 ?_
  refine w_istore (L' := [_, _, _, _, _, _, _, _]) d_X7_lastsOf_109 rfl rfl rfl ?_
  refine g_iload d_X7_lastsOf_111 rfl ?_
  refine g_iconst d_X7_lastsOf_113 ik_1 ?_
  refine g_icmp_ge d_X7_lastsOf_114 (fun c114 => ?_) (fun c114 => ?_)
  · refine g_iload d_X7_lastsOf_121 rfl ?_
    refine h_iret d_X7_lastsOf_123 rfl ?_
    refine pF ?_ rfl
    simp only [lastsS, e1, e7, e3, Int32.add_sub_cancel, Int32.add_zero] at *
    simp only [show ¬ (5 : Int32) = 1 by decide, show ¬ (5 : Int32) = 2 by decide, show ¬ (5 : Int32) = 3 by decide, show ¬ (5 : Int32) = 4 by decide, if_false]
    rw [if_pos True.intro]
    first | rw [clampT (by assumption)] | rw [clampF (by assumption)]
  · refine g_iconst d_X7_lastsOf_117 ik_1 ?_
    refine g_goto d_X7_lastsOf_118 ?_
    refine h_iret d_X7_lastsOf_123 rfl ?_
    refine pF ?_ rfl
    simp only [lastsS, e1, e7, e3, Int32.add_sub_cancel, Int32.add_zero] at *
    simp only [show ¬ (5 : Int32) = 1 by decide, show ¬ (5 : Int32) = 2 by decide, show ¬ (5 : Int32) = 3 by decide, show ¬ (5 : Int32) = 4 by decide, if_false]
    rw [if_pos True.intro]
    first | rw [clampT (by assumption)] | rw [clampF (by assumption)]
theorem m7_lastsOf {h w g : Hv} {M N ja jb A a : Nat} (hA : AR A ja 17) (ha : AR a jb 42) (hR : RepM M N g w ja jb) (hI : HL M N g) {k l : Nat} (hk : k < M) (hl : l < N) {m x : Int32} (em : m = nI k) (ex : x = nI l) : MtF M_X7_lastsOf 1 [.ref A, .ref a, .int m, .int x] (mu h w) (some (.int (lastsS g k l))) (mu h w) := by
  obtain ⟨q, b, c, d, hq1, hq5, eq, -, -, -, hc, ec, hd, ed⟩ := hI.2.2.1 k hk
  obtain ⟨z, u, hz1, hz9, ez, -, -⟩ := hI.2.2.2 l hl
  rcases (show q = 1 ∨ q = 2 ∨ q = 3 ∨ q = 4 ∨ q = 5 by omega) with rfl | rfl | rfl | rfl | rfl
  · exact m7_lasts1 hA ha hR hI hk hl hz1 hz9 hc hd eq ez ec ed em ex
  · exact m7_lasts2 hA ha hR hI hk hl hz1 hz9 hc hd eq ez ec ed em ex
  · exact m7_lasts3 hA ha hR hI hk hl hz1 hz9 hc hd eq ez ec ed em ex
  · exact m7_lasts4 hA ha hR hI hk hl hz1 hz9 hc hd eq ez ec ed em ex
  · exact m7_lasts5 hA ha hR hI hk hl hz1 hz9 hc hd eq ez ec ed em ex

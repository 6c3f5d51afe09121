/-! ASKS -/
def asH (h : Hv) (t : List Int32) : Hv := fun a b => if a = 333 ∧ b = 1 then nI t.length else if a = 334 ∧ b < t.length then t.getD b 0 else h a b
theorem asH_o {h : Hv} {t : List Int32} {a b : Nat} (h1 : a ≠ 333) (h2 : a ≠ 334) : asH h t a b = h a b := by
  unfold asH
  rw [if_neg (fun z => h1 z.1), if_neg (fun z => h2 z.1)]
theorem asH_n {h : Hv} {t : List Int32} : asH h t 333 1 = nI t.length := by
  unfold asH
  rw [if_pos ⟨rfl, rfl⟩]
theorem asH_push {h : Hv} {t : List Int32} {v : Int32} : hset (hset (asH h t) 334 t.length v) 333 1 (nI t.length + 1) = asH h (t ++ [v]) := by
  funext a b
  unfold hset asH
  by_cases h1 : a = 333 ∧ b = 1
  · rw [if_pos h1, if_pos h1, List.length_append]
    exact nI_1 t.length
  · simp only [if_neg h1]
    by_cases h2 : a = 334 ∧ b = t.length
    · rw [if_pos h2, if_pos ⟨h2.1, by rw [List.length_append, h2.2]; exact Nat.lt_succ_self _⟩, h2.2, List.getD_eq_getElem?_getD, List.getElem?_append_right (Nat.le_refl _)]
      simp
    · rw [if_neg h2]
      by_cases h3 : a = 334 ∧ b < t.length
      · rw [if_pos h3, if_pos ⟨h3.1, by rw [List.length_append]; exact Nat.lt_succ_of_lt h3.2⟩, List.getD_eq_getElem?_getD, List.getD_eq_getElem?_getD, List.getElem?_append_left h3.2]
      · rw [if_neg h3, if_neg (fun z => h3 ⟨z.1, by
          have z2 := z.2
          rw [List.length_append] at z2
          have z3 : b ≠ t.length := fun e => h2 ⟨z.1, e⟩
          simp at z2
          omega⟩)]
theorem m_leave {h : Hv} {t : List Int32} (ht : t.length < 16) {v : Int32} : MtF M_X1_leave 0 [.ref 333, .int v] (asH h t) (none) (asH h (t ++ [v])) := by
  refine MtF.of [some (.ref 333), some (.int v)] pl_X1 rfl rfl ?_
  refine g_aload_n d_X1_leave_0 rfl ?_
  refine h_getV (v := nI t.length) d_X1_leave_1 fl_1_15 sp_Asks rfl (asH_n) ?_
  refine g_bipush d_X1_leave_4 bk_16 ?_
  refine g_icmp_ge d_X1_leave_6 (fun c6 => absurd c6 (nI_ge (b := 16) ht (by decide))) (fun c6 => ?_)
  refine g_aload_n d_X1_leave_9 rfl ?_
  refine h_getR d_X1_leave_10 fl_1_11 sp_Asks rfl ?_
  refine g_aload_n d_X1_leave_13 rfl ?_
  refine h_getV (v := nI t.length) d_X1_leave_14 fl_1_15 sp_Asks rfl (asH_n) ?_
  refine g_iload_n d_X1_leave_17 rfl ?_
  refine h_astE (k := t.length) d_X1_leave_18 sp_numbers rfl (by omega) (by decide) ?_
  refine g_aload_n d_X1_leave_19 rfl ?_
  refine g_dup d_X1_leave_20 rfl ?_
  refine h_getV (v := nI t.length) d_X1_leave_21 fl_1_15 sp_Asks rfl ((hs_j (by decide)).trans asH_n) ?_
  refine g_iconst d_X1_leave_24 ik_1 ?_
  refine g_iadd d_X1_leave_25 ?_
  refine h_putI d_X1_leave_26 fl_1_15 sp_Asks rfl ?_
  refine h_vret d_X1_leave_29 rfl ?_
  exact pF rfl asH_push
def bdF (ask : Int32) : Nat → Int32 → Int32 → Int32
  | 0, b, _ => b
  | n + 1, b, k => if k < 0 ∨ ¬ b = 0 then b else bdF ask n (if ask = 0 then sT 1 k.toNatClampNeg else sT 2 k.toNatClampNeg) (sT 0 k.toNatClampNeg)
def kOk (k : Int32) : Prop := k < 0 ∨ ∃ q, q < 6 ∧ k = nI q
theorem kOk_near : ∀ q, q < 6 → sT 0 q < 0 ∨ ∃ r, r < 6 ∧ sT 0 q = nI r := by decide +kernel
theorem lp_bodyFor {h : Hv} {ask kind : Int32} {r : Int32} : ∀ (n s : Nat), s + n = 6 → ∀ (b k : Int32), kOk k → r = bdF ask n b k → GdH M_X1_bodyFor 0 7 [some (.int ask), some (.int kind), some (.int b), some (.int k), some (.int (nI s))] [] h (fun v' h' => v' = some (.int r) ∧ h' = h) := by
  intro n
  induction n with
  | zero =>
    intro s hs b k hk hr
    refine g_iload d_X1_bodyFor_7 rfl ?_
    refine g_getsN d_X1_bodyFor_9 (j := 0) (by decide) fs_1_32 ?_
    refine g_tlen d_X1_bodyFor_12 (by decide) ?_
    refine g_icmp_ge d_X1_bodyFor_13 (fun c13 => ?_) (fun c13 => absurd (nI_le (a := 6) (b := s) (by omega) (by omega)) c13)
    refine g_iload_n d_X1_bodyFor_54 rfl ?_
    refine h_iret d_X1_bodyFor_55 rfl ?_
    exact pF (by rw [hr]; rfl) rfl
  | succ n ih =>
    intro s hs b k hk hr
    rw [bdF] at hr
    refine g_iload d_X1_bodyFor_7 rfl ?_
    refine g_getsN d_X1_bodyFor_9 (j := 0) (by decide) fs_1_32 ?_
    refine g_tlen d_X1_bodyFor_12 (by decide) ?_
    refine g_icmp_ge d_X1_bodyFor_13 (fun c13 => absurd c13 (nI_ge (a := s) (b := 6) (by omega) (by omega))) (fun c13 => ?_)
    refine g_iload_n d_X1_bodyFor_16 rfl ?_
    refine g_if_lt d_X1_bodyFor_17 (fun c17 => ?_) (fun c17 => ?_)
    · refine g_iload_n d_X1_bodyFor_54 rfl ?_
      refine h_iret d_X1_bodyFor_55 rfl ?_
      first | exact pF (by rw [hr, if_pos (Or.inl c17)]) rfl | exact pF (by rw [hr, if_pos (Or.inr c21)]) rfl
    · refine g_iload_n d_X1_bodyFor_20 rfl ?_
      refine g_if_ne d_X1_bodyFor_21 (fun c21 => ?_) (fun c21 => ?_)
      · refine g_iload_n d_X1_bodyFor_54 rfl ?_
        refine h_iret d_X1_bodyFor_55 rfl ?_
        first | exact pF (by rw [hr, if_pos (Or.inl c17)]) rfl | exact pF (by rw [hr, if_pos (Or.inr c21)]) rfl
      · rw [if_neg (fun z => z.elim c17 (fun z => z c21))] at hr
        obtain ⟨q, hq, eq⟩ := hk.resolve_left c17
        subst eq
        rw [nI_clamp (by omega)] at hr
        refine g_iload_n d_X1_bodyFor_24 rfl ?_
        refine g_if_ne d_X1_bodyFor_25 (fun c25 => ?_) (fun c25 => ?_)
        · refine g_getsN d_X1_bodyFor_36 (j := 2) (by decide) fs_1_38 ?_
          refine g_iload_n d_X1_bodyFor_39 rfl ?_
          refine g_taldE (k := q) d_X1_bodyFor_40 (by decide) rfl (by omega) ?_
          refine w_istore_n (L' := [_, _, _, _, _]) d_X1_bodyFor_41 rfl rfl rfl ?_
          refine g_getsN d_X1_bodyFor_42 (j := 0) (by decide) fs_1_32 ?_
          refine g_iload_n d_X1_bodyFor_45 rfl ?_
          refine g_taldE (k := q) d_X1_bodyFor_46 (by decide) rfl (by omega) ?_
          refine w_istore_n (L' := [_, _, _, _, _]) d_X1_bodyFor_47 rfl rfl rfl ?_
          refine w_iinc (L' := [_, _, _, _, _]) d_X1_bodyFor_48 ik_1 rfl rfl rfl rfl ?_
          refine g_goto d_X1_bodyFor_51 ?_
          rw [nI_1]
          first | exact ih (s + 1) (by omega) _ _ (kOk_near q hq) (by rw [hr, if_pos c25]) | exact ih (s + 1) (by omega) _ _ (kOk_near q hq) (by rw [hr, if_neg c25])
        · refine g_getsN d_X1_bodyFor_28 (j := 1) (by decide) fs_1_35 ?_
          refine g_iload_n d_X1_bodyFor_31 rfl ?_
          refine g_taldE (k := q) d_X1_bodyFor_32 (by decide) rfl (by omega) ?_
          refine g_goto d_X1_bodyFor_33 ?_
          refine w_istore_n (L' := [_, _, _, _, _]) d_X1_bodyFor_41 rfl rfl rfl ?_
          refine g_getsN d_X1_bodyFor_42 (j := 0) (by decide) fs_1_32 ?_
          refine g_iload_n d_X1_bodyFor_45 rfl ?_
          refine g_taldE (k := q) d_X1_bodyFor_46 (by decide) rfl (by omega) ?_
          refine w_istore_n (L' := [_, _, _, _, _]) d_X1_bodyFor_47 rfl rfl rfl ?_
          refine w_iinc (L' := [_, _, _, _, _]) d_X1_bodyFor_48 ik_1 rfl rfl rfl rfl ?_
          refine g_goto d_X1_bodyFor_51 ?_
          rw [nI_1]
          first | exact ih (s + 1) (by omega) _ _ (kOk_near q hq) (by rw [hr, if_pos c25]) | exact ih (s + 1) (by omega) _ _ (kOk_near q hq) (by rw [hr, if_neg c25])
theorem m_bodyFor {h : Hv} {ask kind : Int32} (hk : kOk kind) : MtF M_X1_bodyFor 0 [.int ask, .int kind] (h) (some (.int (bdF ask 6 0 kind))) (h) := by
  refine MtF.of [some (.int ask), some (.int kind), none, none, none] pl_X1 rfl rfl ?_
  refine g_iconst d_X1_bodyFor_0 ik_0 ?_
  refine w_istore_n (L' := [_, _, _, _, _]) d_X1_bodyFor_1 rfl rfl rfl ?_
  refine g_iload_n d_X1_bodyFor_2 rfl ?_
  refine w_istore_n (L' := [_, _, _, _, _]) d_X1_bodyFor_3 rfl rfl rfl ?_
  refine g_iconst d_X1_bodyFor_4 ik_0 ?_
  refine w_istore (L' := [_, _, _, _, _]) d_X1_bodyFor_5 rfl rfl rfl ?_
  exact lp_bodyFor 6 0 (by omega) 0 kind hk rfl
theorem m_a10 {h : Hv} {t : List Int32} {k : Nat} (hk : k < 5) {m : Int32} (em : m = nI k) {z : Int32} {p : Nat} (ez : z = nI p) (ht : t.length + 1 ≤ 16) (hp : p + 0 ≤ 12) : MtF M_X1_answer 1 [.ref 333, .ref 15, .int m, .int 10, .int z] (asH h t) (some (.int (h 17 k))) (asH h (t ++ [10])) := by
  subst em
  subst ez
  refine MtF.of [some (.ref 333), some (.ref 15), some (.int (nI k)), some (.int 10), some (.int (nI p)), none] pl_X1 rfl rfl ?_
  refine g_iload d_X1_answer_0 rfl ?_
  refine g_bipush d_X1_answer_2 bk_12 ?_
  refine g_icmp_le d_X1_answer_4 (fun c4 => ?_) (fun c4 => absurd (nI_le (a := p) (b := 12) (by omega) (by decide)) c4)
  refine g_aload_n d_X1_answer_9 rfl ?_
  refine g_iload_n d_X1_answer_10 rfl ?_
  refine h_V1v d_X1_answer_11 cl_1_41 (m_leave (by omega)) sp_Asks (by decide) rfl (Nat.le_of_ble_eq_true rfl) (by decide) ?_
  refine g_iload d_X1_answer_14 rfl ?_
  refine g_iconst d_X1_answer_16 ik_1 ?_
  refine g_iadd d_X1_answer_17 ?_
  refine w_istore (L' := [_, _, _, _, _, _]) d_X1_answer_18 rfl rfl rfl ?_
  rw [nI_1]
  refine g_iload_n d_X1_answer_20 rfl ?_
  refine g_tableIn (tgt := 96) (off := 75) d_X1_answer_21 (by decide) (by decide) (by decide) (by decide) ?_
  refine g_aload_n d_X1_answer_96 rfl ?_
  refine h_getR d_X1_answer_97 fl_1_45 (sp_hall hall_15) rfl ?_
  refine g_iload_n d_X1_answer_100 rfl ?_
  refine h_aldV (k := k) (v := h 17 k) d_X1_answer_101 (sp_h2 hall_15) rfl (by omega) (by decide) (asH_o (by decide) (by decide)) ?_
  refine h_iret d_X1_answer_102 rfl ?_
  exact pF rfl (by simp)
theorem m_a20 {h : Hv} {t : List Int32} {k : Nat} (hk : k < 5) {m : Int32} (em : m = nI k) {z : Int32} {p : Nat} (ez : z = nI p) (ht : t.length + 1 ≤ 16) (hp : p + 0 ≤ 12) : MtF M_X1_answer 1 [.ref 333, .ref 15, .int m, .int 20, .int z] (asH h t) (some (.int (nI k))) (asH h (t ++ [20])) := by
  subst em
  subst ez
  refine MtF.of [some (.ref 333), some (.ref 15), some (.int (nI k)), some (.int 20), some (.int (nI p)), none] pl_X1 rfl rfl ?_
  refine g_iload d_X1_answer_0 rfl ?_
  refine g_bipush d_X1_answer_2 bk_12 ?_
  refine g_icmp_le d_X1_answer_4 (fun c4 => ?_) (fun c4 => absurd (nI_le (a := p) (b := 12) (by omega) (by decide)) c4)
  refine g_aload_n d_X1_answer_9 rfl ?_
  refine g_iload_n d_X1_answer_10 rfl ?_
  refine h_V1v d_X1_answer_11 cl_1_41 (m_leave (by omega)) sp_Asks (by decide) rfl (Nat.le_of_ble_eq_true rfl) (by decide) ?_
  refine g_iload d_X1_answer_14 rfl ?_
  refine g_iconst d_X1_answer_16 ik_1 ?_
  refine g_iadd d_X1_answer_17 ?_
  refine w_istore (L' := [_, _, _, _, _, _]) d_X1_answer_18 rfl rfl rfl ?_
  rw [nI_1]
  refine g_iload_n d_X1_answer_20 rfl ?_
  refine g_tableIn (tgt := 172) (off := 151) d_X1_answer_21 (by decide) (by decide) (by decide) (by decide) ?_
  refine g_iload_n d_X1_answer_172 rfl ?_
  refine h_iret d_X1_answer_173 rfl ?_
  exact pF rfl (by simp)
theorem m_a21 {h : Hv} {t : List Int32} {k : Nat} (hk : k < 5) {m : Int32} (em : m = nI k) {z : Int32} {p : Nat} (ez : z = nI p) (ht : t.length + 2 ≤ 16) (hp : p + 1 ≤ 12) : MtF M_X1_answer 2 [.ref 333, .ref 15, .int m, .int 21, .int z] (asH h t) (some (.int (nI k + h 21 k))) (asH h (t ++ [21, 20])) := by
  subst em
  subst ez
  refine MtF.of [some (.ref 333), some (.ref 15), some (.int (nI k)), some (.int 21), some (.int (nI p)), none] pl_X1 rfl rfl ?_
  refine g_iload d_X1_answer_0 rfl ?_
  refine g_bipush d_X1_answer_2 bk_12 ?_
  refine g_icmp_le d_X1_answer_4 (fun c4 => ?_) (fun c4 => absurd (nI_le (a := p) (b := 12) (by omega) (by decide)) c4)
  refine g_aload_n d_X1_answer_9 rfl ?_
  refine g_iload_n d_X1_answer_10 rfl ?_
  refine h_V1v d_X1_answer_11 cl_1_41 (m_leave (by omega)) sp_Asks (by decide) rfl (Nat.le_of_ble_eq_true rfl) (by decide) ?_
  refine g_iload d_X1_answer_14 rfl ?_
  refine g_iconst d_X1_answer_16 ik_1 ?_
  refine g_iadd d_X1_answer_17 ?_
  refine w_istore (L' := [_, _, _, _, _, _]) d_X1_answer_18 rfl rfl rfl ?_
  rw [nI_1]
  refine g_iload_n d_X1_answer_20 rfl ?_
  refine g_tableIn (tgt := 174) (off := 153) d_X1_answer_21 (by decide) (by decide) (by decide) (by decide) ?_
  refine g_aload_n d_X1_answer_174 rfl ?_
  refine g_aload_n d_X1_answer_175 rfl ?_
  refine g_iload_n d_X1_answer_176 rfl ?_
  refine g_bipush d_X1_answer_177 bk_20 ?_
  refine g_iload d_X1_answer_179 rfl ?_
  refine h_V4i d_X1_answer_181 cl_1_28 (m_a20 hk rfl rfl (by simp; omega) (by omega)) sp_Asks (by decide) rfl (Nat.le_of_ble_eq_true rfl) (by decide) ?_
  refine g_aload_n d_X1_answer_184 rfl ?_
  refine h_getR d_X1_answer_185 fl_1_48 (sp_hall hall_15) rfl ?_
  refine g_iload_n d_X1_answer_188 rfl ?_
  refine h_aldV (k := k) (v := h 21 k) d_X1_answer_189 (sp_h6 hall_15) rfl (by omega) (by decide) (asH_o (by decide) (by decide)) ?_
  refine g_iadd d_X1_answer_190 ?_
  refine h_iret d_X1_answer_191 rfl ?_
  exact pF rfl (by simp [List.append_assoc])
theorem m_a22 {h : Hv} {t : List Int32} {k : Nat} (hk : k < 5) {m : Int32} (em : m = nI k) {z : Int32} {p : Nat} (ez : z = nI p) (ht : t.length + 3 ≤ 16) (hp : p + 2 ≤ 12) : MtF M_X1_answer 3 [.ref 333, .ref 15, .int m, .int 22, .int z] (asH h t) (some (.int (nI k + h 21 k - 1000))) (asH h (t ++ [22, 21, 20])) := by
  subst em
  subst ez
  refine MtF.of [some (.ref 333), some (.ref 15), some (.int (nI k)), some (.int 22), some (.int (nI p)), none] pl_X1 rfl rfl ?_
  refine g_iload d_X1_answer_0 rfl ?_
  refine g_bipush d_X1_answer_2 bk_12 ?_
  refine g_icmp_le d_X1_answer_4 (fun c4 => ?_) (fun c4 => absurd (nI_le (a := p) (b := 12) (by omega) (by decide)) c4)
  refine g_aload_n d_X1_answer_9 rfl ?_
  refine g_iload_n d_X1_answer_10 rfl ?_
  refine h_V1v d_X1_answer_11 cl_1_41 (m_leave (by omega)) sp_Asks (by decide) rfl (Nat.le_of_ble_eq_true rfl) (by decide) ?_
  refine g_iload d_X1_answer_14 rfl ?_
  refine g_iconst d_X1_answer_16 ik_1 ?_
  refine g_iadd d_X1_answer_17 ?_
  refine w_istore (L' := [_, _, _, _, _, _]) d_X1_answer_18 rfl rfl rfl ?_
  rw [nI_1]
  refine g_iload_n d_X1_answer_20 rfl ?_
  refine g_tableIn (tgt := 192) (off := 171) d_X1_answer_21 (by decide) (by decide) (by decide) (by decide) ?_
  refine g_aload_n d_X1_answer_192 rfl ?_
  refine g_aload_n d_X1_answer_193 rfl ?_
  refine g_iload_n d_X1_answer_194 rfl ?_
  refine g_bipush d_X1_answer_195 bk_21 ?_
  refine g_iload d_X1_answer_197 rfl ?_
  refine h_V4i d_X1_answer_199 cl_1_28 (m_a21 hk rfl rfl (by simp; omega) (by omega)) sp_Asks (by decide) rfl (Nat.le_of_ble_eq_true rfl) (by decide) ?_
  refine g_sipush d_X1_answer_202 sk_1000 ?_
  refine g_isub d_X1_answer_205 ?_
  refine h_iret d_X1_answer_206 rfl ?_
  exact pF rfl (by simp [List.append_assoc])
theorem m_a24 {h : Hv} {t : List Int32} {k : Nat} (hk : k < 5) {m : Int32} (em : m = nI k) {z : Int32} {p : Nat} (ez : z = nI p) (ht : t.length + 3 ≤ 16) (hp : p + 2 ≤ 12) : MtF M_X1_answer 3 [.ref 333, .ref 15, .int m, .int 24, .int z] (asH h t) (some (.int ((nI k + h 21 k) * 2))) (asH h (t ++ [24, 21, 20])) := by
  subst em
  subst ez
  refine MtF.of [some (.ref 333), some (.ref 15), some (.int (nI k)), some (.int 24), some (.int (nI p)), none] pl_X1 rfl rfl ?_
  refine g_iload d_X1_answer_0 rfl ?_
  refine g_bipush d_X1_answer_2 bk_12 ?_
  refine g_icmp_le d_X1_answer_4 (fun c4 => ?_) (fun c4 => absurd (nI_le (a := p) (b := 12) (by omega) (by decide)) c4)
  refine g_aload_n d_X1_answer_9 rfl ?_
  refine g_iload_n d_X1_answer_10 rfl ?_
  refine h_V1v d_X1_answer_11 cl_1_41 (m_leave (by omega)) sp_Asks (by decide) rfl (Nat.le_of_ble_eq_true rfl) (by decide) ?_
  refine g_iload d_X1_answer_14 rfl ?_
  refine g_iconst d_X1_answer_16 ik_1 ?_
  refine g_iadd d_X1_answer_17 ?_
  refine w_istore (L' := [_, _, _, _, _, _]) d_X1_answer_18 rfl rfl rfl ?_
  rw [nI_1]
  refine g_iload_n d_X1_answer_20 rfl ?_
  refine g_tableIn (tgt := 237) (off := 216) d_X1_answer_21 (by decide) (by decide) (by decide) (by decide) ?_
  refine g_aload_n d_X1_answer_237 rfl ?_
  refine g_aload_n d_X1_answer_238 rfl ?_
  refine g_iload_n d_X1_answer_239 rfl ?_
  refine g_bipush d_X1_answer_240 bk_21 ?_
  refine g_iload d_X1_answer_242 rfl ?_
  refine h_V4i d_X1_answer_244 cl_1_28 (m_a21 hk rfl rfl (by simp; omega) (by omega)) sp_Asks (by decide) rfl (Nat.le_of_ble_eq_true rfl) (by decide) ?_
  refine g_iconst d_X1_answer_247 ik_2 ?_
  refine g_imul d_X1_answer_248 ?_
  refine h_iret d_X1_answer_249 rfl ?_
  exact pF rfl (by simp [List.append_assoc])
theorem m_a13 {h : Hv} {t : List Int32} {k : Nat} (hk : k < 5) {m : Int32} (em : m = nI k) {z : Int32} {p : Nat} (ez : z = nI p) (ht : t.length + 2 ≤ 16) (hp : p + 1 ≤ 12) : MtF M_X1_answer 2 [.ref 333, .ref 15, .int m, .int 13, .int z] (asH h t) (some (.int (h 17 k - 100))) (asH h (t ++ [13, 10])) := by
  subst em
  subst ez
  refine MtF.of [some (.ref 333), some (.ref 15), some (.int (nI k)), some (.int 13), some (.int (nI p)), none] pl_X1 rfl rfl ?_
  refine g_iload d_X1_answer_0 rfl ?_
  refine g_bipush d_X1_answer_2 bk_12 ?_
  refine g_icmp_le d_X1_answer_4 (fun c4 => ?_) (fun c4 => absurd (nI_le (a := p) (b := 12) (by omega) (by decide)) c4)
  refine g_aload_n d_X1_answer_9 rfl ?_
  refine g_iload_n d_X1_answer_10 rfl ?_
  refine h_V1v d_X1_answer_11 cl_1_41 (m_leave (by omega)) sp_Asks (by decide) rfl (Nat.le_of_ble_eq_true rfl) (by decide) ?_
  refine g_iload d_X1_answer_14 rfl ?_
  refine g_iconst d_X1_answer_16 ik_1 ?_
  refine g_iadd d_X1_answer_17 ?_
  refine w_istore (L' := [_, _, _, _, _, _]) d_X1_answer_18 rfl rfl rfl ?_
  rw [nI_1]
  refine g_iload_n d_X1_answer_20 rfl ?_
  refine g_tableIn (tgt := 145) (off := 124) d_X1_answer_21 (by decide) (by decide) (by decide) (by decide) ?_
  refine g_aload_n d_X1_answer_145 rfl ?_
  refine g_aload_n d_X1_answer_146 rfl ?_
  refine g_iload_n d_X1_answer_147 rfl ?_
  refine g_bipush d_X1_answer_148 bk_10 ?_
  refine g_iload d_X1_answer_150 rfl ?_
  refine h_V4i d_X1_answer_152 cl_1_28 (m_a10 hk rfl rfl (by simp; omega) (by omega)) sp_Asks (by decide) rfl (Nat.le_of_ble_eq_true rfl) (by decide) ?_
  refine g_bipush d_X1_answer_155 bk_100 ?_
  refine g_isub d_X1_answer_157 ?_
  refine h_iret d_X1_answer_158 rfl ?_
  exact pF rfl (by simp [List.append_assoc])
theorem m_a14 {h : Hv} {t : List Int32} {k : Nat} (hk : k < 5) {m : Int32} (em : m = nI k) {z : Int32} {p : Nat} (ez : z = nI p) (ht : t.length + 3 ≤ 16) (hp : p + 2 ≤ 12) : MtF M_X1_answer 3 [.ref 333, .ref 15, .int m, .int 14, .int z] (asH h t) (some (.int ((h 17 k - 100) * 2))) (asH h (t ++ [14, 13, 10])) := by
  subst em
  subst ez
  refine MtF.of [some (.ref 333), some (.ref 15), some (.int (nI k)), some (.int 14), some (.int (nI p)), none] pl_X1 rfl rfl ?_
  refine g_iload d_X1_answer_0 rfl ?_
  refine g_bipush d_X1_answer_2 bk_12 ?_
  refine g_icmp_le d_X1_answer_4 (fun c4 => ?_) (fun c4 => absurd (nI_le (a := p) (b := 12) (by omega) (by decide)) c4)
  refine g_aload_n d_X1_answer_9 rfl ?_
  refine g_iload_n d_X1_answer_10 rfl ?_
  refine h_V1v d_X1_answer_11 cl_1_41 (m_leave (by omega)) sp_Asks (by decide) rfl (Nat.le_of_ble_eq_true rfl) (by decide) ?_
  refine g_iload d_X1_answer_14 rfl ?_
  refine g_iconst d_X1_answer_16 ik_1 ?_
  refine g_iadd d_X1_answer_17 ?_
  refine w_istore (L' := [_, _, _, _, _, _]) d_X1_answer_18 rfl rfl rfl ?_
  rw [nI_1]
  refine g_iload_n d_X1_answer_20 rfl ?_
  refine g_tableIn (tgt := 159) (off := 138) d_X1_answer_21 (by decide) (by decide) (by decide) (by decide) ?_
  refine g_aload_n d_X1_answer_159 rfl ?_
  refine g_aload_n d_X1_answer_160 rfl ?_
  refine g_iload_n d_X1_answer_161 rfl ?_
  refine g_bipush d_X1_answer_162 bk_13 ?_
  refine g_iload d_X1_answer_164 rfl ?_
  refine h_V4i d_X1_answer_166 cl_1_28 (m_a13 hk rfl rfl (by simp; omega) (by omega)) sp_Asks (by decide) rfl (Nat.le_of_ble_eq_true rfl) (by decide) ?_
  refine g_iconst d_X1_answer_169 ik_2 ?_
  refine g_imul d_X1_answer_170 ?_
  refine h_iret d_X1_answer_171 rfl ?_
  exact pF rfl (by simp [List.append_assoc])
theorem m_a11_1 {h : Hv} {t : List Int32} {k : Nat} (hk : k < 5) {m : Int32} (em : m = nI k) {z : Int32} {p : Nat} (ez : z = nI p) (hkd : h 16 k = 1) (ht : t.length + 4 ≤ 16) (hp : p + 3 ≤ 12) : MtF M_X1_answer 5 [.ref 333, .ref 15, .int m, .int 11, .int z] (asH h t) (some (.int (h 17 k + (nI k + h 21 k)))) (asH h (t ++ [11, 10, 21, 20])) := by
  subst em
  subst ez
  refine MtF.of [some (.ref 333), some (.ref 15), some (.int (nI k)), some (.int 11), some (.int (nI p)), none] pl_X1 rfl rfl ?_
  refine g_iload d_X1_answer_0 rfl ?_
  refine g_bipush d_X1_answer_2 bk_12 ?_
  refine g_icmp_le d_X1_answer_4 (fun c4 => ?_) (fun c4 => absurd (nI_le (a := p) (b := 12) (by omega) (by decide)) c4)
  refine g_aload_n d_X1_answer_9 rfl ?_
  refine g_iload_n d_X1_answer_10 rfl ?_
  refine h_V1v d_X1_answer_11 cl_1_41 (m_leave (by omega)) sp_Asks (by decide) rfl (Nat.le_of_ble_eq_true rfl) (by decide) ?_
  refine g_iload d_X1_answer_14 rfl ?_
  refine g_iconst d_X1_answer_16 ik_1 ?_
  refine g_iadd d_X1_answer_17 ?_
  refine w_istore (L' := [_, _, _, _, _, _]) d_X1_answer_18 rfl rfl rfl ?_
  rw [nI_1]
  refine g_iload_n d_X1_answer_20 rfl ?_
  refine g_tableIn (tgt := 103) (off := 82) d_X1_answer_21 (by decide) (by decide) (by decide) (by decide) ?_
  refine g_aload_n d_X1_answer_103 rfl ?_
  refine g_aload_n d_X1_answer_104 rfl ?_
  refine g_iload_n d_X1_answer_105 rfl ?_
  refine g_bipush d_X1_answer_106 bk_10 ?_
  refine g_iload d_X1_answer_108 rfl ?_
  refine h_V4i d_X1_answer_110 cl_1_28 (m_a10 hk rfl rfl (by simp; omega) (by omega)) sp_Asks (by decide) rfl (Nat.le_of_ble_eq_true rfl) (by decide) ?_
  refine g_aload_n d_X1_answer_113 rfl ?_
  refine g_aload_n d_X1_answer_114 rfl ?_
  refine g_iload_n d_X1_answer_115 rfl ?_
  refine g_iconst d_X1_answer_116 ik_1 ?_
  refine g_aload_n d_X1_answer_117 rfl ?_
  refine h_getR d_X1_answer_118 fl_1_19 (sp_hall hall_15) rfl ?_
  refine g_iload_n d_X1_answer_121 rfl ?_
  refine h_aldV (k := k) (v := 1) d_X1_answer_122 (sp_h1 hall_15) rfl (by omega) (by decide) ((asH_o (by decide) (by decide)).trans hkd) ?_
  refine h_S2i d_X1_answer_123 cl_1_24 (m_bodyFor (Or.inr ⟨1, by decide, rfl⟩)) (Nat.le_of_ble_eq_true rfl) (by decide) ?_
  rw [show bdF 1 6 0 1 = 21 from by decide]
  refine g_iload d_X1_answer_126 rfl ?_
  refine h_V4i d_X1_answer_128 cl_1_28 (m_a21 hk rfl rfl (by simp; omega) (by omega)) sp_Asks (by decide) rfl (Nat.le_of_ble_eq_true rfl) (by decide) ?_
  refine g_iadd d_X1_answer_131 ?_
  refine h_iret d_X1_answer_132 rfl ?_
  exact pF rfl (by simp [List.append_assoc])
theorem m_a11_2 {h : Hv} {t : List Int32} {k : Nat} (hk : k < 5) {m : Int32} (em : m = nI k) {z : Int32} {p : Nat} (ez : z = nI p) (hkd : h 16 k = 2) (ht : t.length + 5 ≤ 16) (hp : p + 3 ≤ 12) : MtF M_X1_answer 5 [.ref 333, .ref 15, .int m, .int 11, .int z] (asH h t) (some (.int (h 17 k + ((nI k + h 21 k) * 2)))) (asH h (t ++ [11, 10, 24, 21, 20])) := by
  subst em
  subst ez
  refine MtF.of [some (.ref 333), some (.ref 15), some (.int (nI k)), some (.int 11), some (.int (nI p)), none] pl_X1 rfl rfl ?_
  refine g_iload d_X1_answer_0 rfl ?_
  refine g_bipush d_X1_answer_2 bk_12 ?_
  refine g_icmp_le d_X1_answer_4 (fun c4 => ?_) (fun c4 => absurd (nI_le (a := p) (b := 12) (by omega) (by decide)) c4)
  refine g_aload_n d_X1_answer_9 rfl ?_
  refine g_iload_n d_X1_answer_10 rfl ?_
  refine h_V1v d_X1_answer_11 cl_1_41 (m_leave (by omega)) sp_Asks (by decide) rfl (Nat.le_of_ble_eq_true rfl) (by decide) ?_
  refine g_iload d_X1_answer_14 rfl ?_
  refine g_iconst d_X1_answer_16 ik_1 ?_
  refine g_iadd d_X1_answer_17 ?_
  refine w_istore (L' := [_, _, _, _, _, _]) d_X1_answer_18 rfl rfl rfl ?_
  rw [nI_1]
  refine g_iload_n d_X1_answer_20 rfl ?_
  refine g_tableIn (tgt := 103) (off := 82) d_X1_answer_21 (by decide) (by decide) (by decide) (by decide) ?_
  refine g_aload_n d_X1_answer_103 rfl ?_
  refine g_aload_n d_X1_answer_104 rfl ?_
  refine g_iload_n d_X1_answer_105 rfl ?_
  refine g_bipush d_X1_answer_106 bk_10 ?_
  refine g_iload d_X1_answer_108 rfl ?_
  refine h_V4i d_X1_answer_110 cl_1_28 (m_a10 hk rfl rfl (by simp; omega) (by omega)) sp_Asks (by decide) rfl (Nat.le_of_ble_eq_true rfl) (by decide) ?_
  refine g_aload_n d_X1_answer_113 rfl ?_
  refine g_aload_n d_X1_answer_114 rfl ?_
  refine g_iload_n d_X1_answer_115 rfl ?_
  refine g_iconst d_X1_answer_116 ik_1 ?_
  refine g_aload_n d_X1_answer_117 rfl ?_
  refine h_getR d_X1_answer_118 fl_1_19 (sp_hall hall_15) rfl ?_
  refine g_iload_n d_X1_answer_121 rfl ?_
  refine h_aldV (k := k) (v := 2) d_X1_answer_122 (sp_h1 hall_15) rfl (by omega) (by decide) ((asH_o (by decide) (by decide)).trans hkd) ?_
  refine h_S2i d_X1_answer_123 cl_1_24 (m_bodyFor (Or.inr ⟨2, by decide, rfl⟩)) (Nat.le_of_ble_eq_true rfl) (by decide) ?_
  rw [show bdF 1 6 0 2 = 24 from by decide]
  refine g_iload d_X1_answer_126 rfl ?_
  refine h_V4i d_X1_answer_128 cl_1_28 (m_a24 hk rfl rfl (by simp; omega) (by omega)) sp_Asks (by decide) rfl (Nat.le_of_ble_eq_true rfl) (by decide) ?_
  refine g_iadd d_X1_answer_131 ?_
  refine h_iret d_X1_answer_132 rfl ?_
  exact pF rfl (by simp [List.append_assoc])
theorem m_a11_3 {h : Hv} {t : List Int32} {k : Nat} (hk : k < 5) {m : Int32} (em : m = nI k) {z : Int32} {p : Nat} (ez : z = nI p) (hkd : h 16 k = 3) (ht : t.length + 5 ≤ 16) (hp : p + 3 ≤ 12) : MtF M_X1_answer 5 [.ref 333, .ref 15, .int m, .int 11, .int z] (asH h t) (some (.int (h 17 k + (nI k + h 21 k - 1000)))) (asH h (t ++ [11, 10, 22, 21, 20])) := by
  subst em
  subst ez
  refine MtF.of [some (.ref 333), some (.ref 15), some (.int (nI k)), some (.int 11), some (.int (nI p)), none] pl_X1 rfl rfl ?_
  refine g_iload d_X1_answer_0 rfl ?_
  refine g_bipush d_X1_answer_2 bk_12 ?_
  refine g_icmp_le d_X1_answer_4 (fun c4 => ?_) (fun c4 => absurd (nI_le (a := p) (b := 12) (by omega) (by decide)) c4)
  refine g_aload_n d_X1_answer_9 rfl ?_
  refine g_iload_n d_X1_answer_10 rfl ?_
  refine h_V1v d_X1_answer_11 cl_1_41 (m_leave (by omega)) sp_Asks (by decide) rfl (Nat.le_of_ble_eq_true rfl) (by decide) ?_
  refine g_iload d_X1_answer_14 rfl ?_
  refine g_iconst d_X1_answer_16 ik_1 ?_
  refine g_iadd d_X1_answer_17 ?_
  refine w_istore (L' := [_, _, _, _, _, _]) d_X1_answer_18 rfl rfl rfl ?_
  rw [nI_1]
  refine g_iload_n d_X1_answer_20 rfl ?_
  refine g_tableIn (tgt := 103) (off := 82) d_X1_answer_21 (by decide) (by decide) (by decide) (by decide) ?_
  refine g_aload_n d_X1_answer_103 rfl ?_
  refine g_aload_n d_X1_answer_104 rfl ?_
  refine g_iload_n d_X1_answer_105 rfl ?_
  refine g_bipush d_X1_answer_106 bk_10 ?_
  refine g_iload d_X1_answer_108 rfl ?_
  refine h_V4i d_X1_answer_110 cl_1_28 (m_a10 hk rfl rfl (by simp; omega) (by omega)) sp_Asks (by decide) rfl (Nat.le_of_ble_eq_true rfl) (by decide) ?_
  refine g_aload_n d_X1_answer_113 rfl ?_
  refine g_aload_n d_X1_answer_114 rfl ?_
  refine g_iload_n d_X1_answer_115 rfl ?_
  refine g_iconst d_X1_answer_116 ik_1 ?_
  refine g_aload_n d_X1_answer_117 rfl ?_
  refine h_getR d_X1_answer_118 fl_1_19 (sp_hall hall_15) rfl ?_
  refine g_iload_n d_X1_answer_121 rfl ?_
  refine h_aldV (k := k) (v := 3) d_X1_answer_122 (sp_h1 hall_15) rfl (by omega) (by decide) ((asH_o (by decide) (by decide)).trans hkd) ?_
  refine h_S2i d_X1_answer_123 cl_1_24 (m_bodyFor (Or.inr ⟨3, by decide, rfl⟩)) (Nat.le_of_ble_eq_true rfl) (by decide) ?_
  rw [show bdF 1 6 0 3 = 22 from by decide]
  refine g_iload d_X1_answer_126 rfl ?_
  refine h_V4i d_X1_answer_128 cl_1_28 (m_a22 hk rfl rfl (by simp; omega) (by omega)) sp_Asks (by decide) rfl (Nat.le_of_ble_eq_true rfl) (by decide) ?_
  refine g_iadd d_X1_answer_131 ?_
  refine h_iret d_X1_answer_132 rfl ?_
  exact pF rfl (by simp [List.append_assoc])
theorem m_a12 {h : Hv} {t : List Int32} {k : Nat} (hk : k < 5) {m : Int32} (em : m = nI k) {z : Int32} {p : Nat} (ez : z = nI p) (hkd : h 16 k = 2) (ht : t.length + 6 ≤ 16) (hp : p + 4 ≤ 12) : MtF M_X1_answer 6 [.ref 333, .ref 15, .int m, .int 12, .int z] (asH h t) (some (.int (-(h 17 k + ((nI k + h 21 k) * 2))))) (asH h (t ++ [12, 11, 10, 24, 21, 20])) := by
  subst em
  subst ez
  refine MtF.of [some (.ref 333), some (.ref 15), some (.int (nI k)), some (.int 12), some (.int (nI p)), none] pl_X1 rfl rfl ?_
  refine g_iload d_X1_answer_0 rfl ?_
  refine g_bipush d_X1_answer_2 bk_12 ?_
  refine g_icmp_le d_X1_answer_4 (fun c4 => ?_) (fun c4 => absurd (nI_le (a := p) (b := 12) (by omega) (by decide)) c4)
  refine g_aload_n d_X1_answer_9 rfl ?_
  refine g_iload_n d_X1_answer_10 rfl ?_
  refine h_V1v d_X1_answer_11 cl_1_41 (m_leave (by omega)) sp_Asks (by decide) rfl (Nat.le_of_ble_eq_true rfl) (by decide) ?_
  refine g_iload d_X1_answer_14 rfl ?_
  refine g_iconst d_X1_answer_16 ik_1 ?_
  refine g_iadd d_X1_answer_17 ?_
  refine w_istore (L' := [_, _, _, _, _, _]) d_X1_answer_18 rfl rfl rfl ?_
  rw [nI_1]
  refine g_iload_n d_X1_answer_20 rfl ?_
  refine g_tableIn (tgt := 133) (off := 112) d_X1_answer_21 (by decide) (by decide) (by decide) (by decide) ?_
  refine g_aload_n d_X1_answer_133 rfl ?_
  refine g_aload_n d_X1_answer_134 rfl ?_
  refine g_iload_n d_X1_answer_135 rfl ?_
  refine g_bipush d_X1_answer_136 bk_11 ?_
  refine g_iload d_X1_answer_138 rfl ?_
  refine h_V4i d_X1_answer_140 cl_1_28 (m_a11_2 hk rfl rfl hkd (by simp; omega) (by omega)) sp_Asks (by decide) rfl (Nat.le_of_ble_eq_true rfl) (by decide) ?_
  refine g_ineg d_X1_answer_143 ?_
  refine h_iret d_X1_answer_144 rfl ?_
  exact pF rfl (by simp [List.append_assoc])
theorem m_a23_4 {h : Hv} {t : List Int32} {k : Nat} (hk : k < 5) {m : Int32} (em : m = nI k) {z : Int32} {p : Nat} (ez : z = nI p) (hkd : h 16 k = 4) (ht : t.length + 4 ≤ 16) (hp : p + 3 ≤ 12) : MtF M_X1_answer 5 [.ref 333, .ref 15, .int m, .int 23, .int z] (asH h t) (some (.int (nI k - (h 17 k - 100)))) (asH h (t ++ [23, 20, 13, 10])) := by
  subst em
  subst ez
  refine MtF.of [some (.ref 333), some (.ref 15), some (.int (nI k)), some (.int 23), some (.int (nI p)), none] pl_X1 rfl rfl ?_
  refine g_iload d_X1_answer_0 rfl ?_
  refine g_bipush d_X1_answer_2 bk_12 ?_
  refine g_icmp_le d_X1_answer_4 (fun c4 => ?_) (fun c4 => absurd (nI_le (a := p) (b := 12) (by omega) (by decide)) c4)
  refine g_aload_n d_X1_answer_9 rfl ?_
  refine g_iload_n d_X1_answer_10 rfl ?_
  refine h_V1v d_X1_answer_11 cl_1_41 (m_leave (by omega)) sp_Asks (by decide) rfl (Nat.le_of_ble_eq_true rfl) (by decide) ?_
  refine g_iload d_X1_answer_14 rfl ?_
  refine g_iconst d_X1_answer_16 ik_1 ?_
  refine g_iadd d_X1_answer_17 ?_
  refine w_istore (L' := [_, _, _, _, _, _]) d_X1_answer_18 rfl rfl rfl ?_
  rw [nI_1]
  refine g_iload_n d_X1_answer_20 rfl ?_
  refine g_tableIn (tgt := 207) (off := 186) d_X1_answer_21 (by decide) (by decide) (by decide) (by decide) ?_
  refine g_aload_n d_X1_answer_207 rfl ?_
  refine g_aload_n d_X1_answer_208 rfl ?_
  refine g_iload_n d_X1_answer_209 rfl ?_
  refine g_bipush d_X1_answer_210 bk_20 ?_
  refine g_iload d_X1_answer_212 rfl ?_
  refine h_V4i d_X1_answer_214 cl_1_28 (m_a20 hk rfl rfl (by simp; omega) (by omega)) sp_Asks (by decide) rfl (Nat.le_of_ble_eq_true rfl) (by decide) ?_
  refine g_aload_n d_X1_answer_217 rfl ?_
  refine g_aload_n d_X1_answer_218 rfl ?_
  refine g_iload_n d_X1_answer_219 rfl ?_
  refine g_iconst d_X1_answer_220 ik_0 ?_
  refine g_aload_n d_X1_answer_221 rfl ?_
  refine h_getR d_X1_answer_222 fl_1_19 (sp_hall hall_15) rfl ?_
  refine g_iload_n d_X1_answer_225 rfl ?_
  refine h_aldV (k := k) (v := 4) d_X1_answer_226 (sp_h1 hall_15) rfl (by omega) (by decide) ((asH_o (by decide) (by decide)).trans hkd) ?_
  refine h_S2i d_X1_answer_227 cl_1_24 (m_bodyFor (Or.inr ⟨4, by decide, rfl⟩)) (Nat.le_of_ble_eq_true rfl) (by decide) ?_
  rw [show bdF 0 6 0 4 = 13 from by decide]
  refine g_iload d_X1_answer_230 rfl ?_
  refine h_V4i d_X1_answer_232 cl_1_28 (m_a13 hk rfl rfl (by simp; omega) (by omega)) sp_Asks (by decide) rfl (Nat.le_of_ble_eq_true rfl) (by decide) ?_
  refine g_isub d_X1_answer_235 ?_
  refine h_iret d_X1_answer_236 rfl ?_
  exact pF rfl (by simp [List.append_assoc])
theorem m_a23_5 {h : Hv} {t : List Int32} {k : Nat} (hk : k < 5) {m : Int32} (em : m = nI k) {z : Int32} {p : Nat} (ez : z = nI p) (hkd : h 16 k = 5) (ht : t.length + 5 ≤ 16) (hp : p + 3 ≤ 12) : MtF M_X1_answer 5 [.ref 333, .ref 15, .int m, .int 23, .int z] (asH h t) (some (.int (nI k - ((h 17 k - 100) * 2)))) (asH h (t ++ [23, 20, 14, 13, 10])) := by
  subst em
  subst ez
  refine MtF.of [some (.ref 333), some (.ref 15), some (.int (nI k)), some (.int 23), some (.int (nI p)), none] pl_X1 rfl rfl ?_
  refine g_iload d_X1_answer_0 rfl ?_
  refine g_bipush d_X1_answer_2 bk_12 ?_
  refine g_icmp_le d_X1_answer_4 (fun c4 => ?_) (fun c4 => absurd (nI_le (a := p) (b := 12) (by omega) (by decide)) c4)
  refine g_aload_n d_X1_answer_9 rfl ?_
  refine g_iload_n d_X1_answer_10 rfl ?_
  refine h_V1v d_X1_answer_11 cl_1_41 (m_leave (by omega)) sp_Asks (by decide) rfl (Nat.le_of_ble_eq_true rfl) (by decide) ?_
  refine g_iload d_X1_answer_14 rfl ?_
  refine g_iconst d_X1_answer_16 ik_1 ?_
  refine g_iadd d_X1_answer_17 ?_
  refine w_istore (L' := [_, _, _, _, _, _]) d_X1_answer_18 rfl rfl rfl ?_
  rw [nI_1]
  refine g_iload_n d_X1_answer_20 rfl ?_
  refine g_tableIn (tgt := 207) (off := 186) d_X1_answer_21 (by decide) (by decide) (by decide) (by decide) ?_
  refine g_aload_n d_X1_answer_207 rfl ?_
  refine g_aload_n d_X1_answer_208 rfl ?_
  refine g_iload_n d_X1_answer_209 rfl ?_
  refine g_bipush d_X1_answer_210 bk_20 ?_
  refine g_iload d_X1_answer_212 rfl ?_
  refine h_V4i d_X1_answer_214 cl_1_28 (m_a20 hk rfl rfl (by simp; omega) (by omega)) sp_Asks (by decide) rfl (Nat.le_of_ble_eq_true rfl) (by decide) ?_
  refine g_aload_n d_X1_answer_217 rfl ?_
  refine g_aload_n d_X1_answer_218 rfl ?_
  refine g_iload_n d_X1_answer_219 rfl ?_
  refine g_iconst d_X1_answer_220 ik_0 ?_
  refine g_aload_n d_X1_answer_221 rfl ?_
  refine h_getR d_X1_answer_222 fl_1_19 (sp_hall hall_15) rfl ?_
  refine g_iload_n d_X1_answer_225 rfl ?_
  refine h_aldV (k := k) (v := 5) d_X1_answer_226 (sp_h1 hall_15) rfl (by omega) (by decide) ((asH_o (by decide) (by decide)).trans hkd) ?_
  refine h_S2i d_X1_answer_227 cl_1_24 (m_bodyFor (Or.inr ⟨5, by decide, rfl⟩)) (Nat.le_of_ble_eq_true rfl) (by decide) ?_
  rw [show bdF 0 6 0 5 = 14 from by decide]
  refine g_iload d_X1_answer_230 rfl ?_
  refine h_V4i d_X1_answer_232 cl_1_28 (m_a14 hk rfl rfl (by simp; omega) (by omega)) sp_Asks (by decide) rfl (Nat.le_of_ble_eq_true rfl) (by decide) ?_
  refine g_isub d_X1_answer_235 ?_
  refine h_iret d_X1_answer_236 rfl ?_
  exact pF rfl (by simp [List.append_assoc])
theorem asH_0 {h : Hv} : hset h 333 1 0 = asH h [] := by
  funext a b
  unfold hset asH
  by_cases h1 : a = 333 ∧ b = 1
  · rw [if_pos h1, if_pos h1]
    rfl
  · rw [if_neg h1, if_neg h1, if_neg (fun z => by have := z.2; simp at this)]
theorem m_begin_0_1 {h : Hv} {k : Nat} (hk : k < 5) {m : Int32} (em : m = nI k) (hkd : h 16 k = 1) : MtF M_X1_begin 7 [.ref 333, .ref 15, .int m, .int 0] (h) (some (.int (h 17 k + (nI k + h 21 k)))) (asH h [11, 10, 21, 20]) := by
  subst em
  refine MtF.of [some (.ref 333), some (.ref 15), some (.int (nI k)), some (.int 0)] pl_X1 rfl rfl ?_
  refine g_aload_n d_X1_begin_0 rfl ?_
  refine g_iconst d_X1_begin_1 ik_0 ?_
  refine h_putI d_X1_begin_2 fl_1_15 sp_Asks rfl ?_
  rw [asH_0]
  refine g_aload_n d_X1_begin_5 rfl ?_
  refine g_aload_n d_X1_begin_6 rfl ?_
  refine g_iload_n d_X1_begin_7 rfl ?_
  refine g_iload_n d_X1_begin_8 rfl ?_
  refine g_aload_n d_X1_begin_9 rfl ?_
  refine h_getR d_X1_begin_10 fl_1_19 (sp_hall hall_15) rfl ?_
  refine g_iload_n d_X1_begin_13 rfl ?_
  refine h_aldV (k := k) (v := 1) d_X1_begin_14 (sp_h1 hall_15) rfl (by omega) (by decide) ((asH_o (by decide) (by decide)).trans hkd) ?_
  refine h_S2i d_X1_begin_15 cl_1_24 (m_bodyFor (Or.inr ⟨1, by decide, rfl⟩)) (Nat.le_of_ble_eq_true rfl) (by decide) ?_
  rw [show bdF 0 6 0 1 = 11 from by decide]
  refine g_iconst d_X1_begin_18 ik_0 ?_
  refine h_V4i d_X1_begin_19 cl_1_28 (m_a11_1 (p := 0) hk rfl rfl hkd (by simp) (by omega)) sp_Asks (by decide) rfl (Nat.le_of_ble_eq_true rfl) (by decide) ?_
  refine h_iret d_X1_begin_22 rfl ?_
  exact ⟨rfl, rfl⟩
theorem m_begin_0_2 {h : Hv} {k : Nat} (hk : k < 5) {m : Int32} (em : m = nI k) (hkd : h 16 k = 2) : MtF M_X1_begin 7 [.ref 333, .ref 15, .int m, .int 0] (h) (some (.int (-(h 17 k + ((nI k + h 21 k) * 2))))) (asH h [12, 11, 10, 24, 21, 20]) := by
  subst em
  refine MtF.of [some (.ref 333), some (.ref 15), some (.int (nI k)), some (.int 0)] pl_X1 rfl rfl ?_
  refine g_aload_n d_X1_begin_0 rfl ?_
  refine g_iconst d_X1_begin_1 ik_0 ?_
  refine h_putI d_X1_begin_2 fl_1_15 sp_Asks rfl ?_
  rw [asH_0]
  refine g_aload_n d_X1_begin_5 rfl ?_
  refine g_aload_n d_X1_begin_6 rfl ?_
  refine g_iload_n d_X1_begin_7 rfl ?_
  refine g_iload_n d_X1_begin_8 rfl ?_
  refine g_aload_n d_X1_begin_9 rfl ?_
  refine h_getR d_X1_begin_10 fl_1_19 (sp_hall hall_15) rfl ?_
  refine g_iload_n d_X1_begin_13 rfl ?_
  refine h_aldV (k := k) (v := 2) d_X1_begin_14 (sp_h1 hall_15) rfl (by omega) (by decide) ((asH_o (by decide) (by decide)).trans hkd) ?_
  refine h_S2i d_X1_begin_15 cl_1_24 (m_bodyFor (Or.inr ⟨2, by decide, rfl⟩)) (Nat.le_of_ble_eq_true rfl) (by decide) ?_
  rw [show bdF 0 6 0 2 = 12 from by decide]
  refine g_iconst d_X1_begin_18 ik_0 ?_
  refine h_V4i d_X1_begin_19 cl_1_28 (m_a12 (p := 0) hk rfl rfl hkd (by simp) (by omega)) sp_Asks (by decide) rfl (Nat.le_of_ble_eq_true rfl) (by decide) ?_
  refine h_iret d_X1_begin_22 rfl ?_
  exact ⟨rfl, rfl⟩
theorem m_begin_0_3 {h : Hv} {k : Nat} (hk : k < 5) {m : Int32} (em : m = nI k) (hkd : h 16 k = 3) : MtF M_X1_begin 7 [.ref 333, .ref 15, .int m, .int 0] (h) (some (.int (h 17 k + (nI k + h 21 k - 1000)))) (asH h [11, 10, 22, 21, 20]) := by
  subst em
  refine MtF.of [some (.ref 333), some (.ref 15), some (.int (nI k)), some (.int 0)] pl_X1 rfl rfl ?_
  refine g_aload_n d_X1_begin_0 rfl ?_
  refine g_iconst d_X1_begin_1 ik_0 ?_
  refine h_putI d_X1_begin_2 fl_1_15 sp_Asks rfl ?_
  rw [asH_0]
  refine g_aload_n d_X1_begin_5 rfl ?_
  refine g_aload_n d_X1_begin_6 rfl ?_
  refine g_iload_n d_X1_begin_7 rfl ?_
  refine g_iload_n d_X1_begin_8 rfl ?_
  refine g_aload_n d_X1_begin_9 rfl ?_
  refine h_getR d_X1_begin_10 fl_1_19 (sp_hall hall_15) rfl ?_
  refine g_iload_n d_X1_begin_13 rfl ?_
  refine h_aldV (k := k) (v := 3) d_X1_begin_14 (sp_h1 hall_15) rfl (by omega) (by decide) ((asH_o (by decide) (by decide)).trans hkd) ?_
  refine h_S2i d_X1_begin_15 cl_1_24 (m_bodyFor (Or.inr ⟨3, by decide, rfl⟩)) (Nat.le_of_ble_eq_true rfl) (by decide) ?_
  rw [show bdF 0 6 0 3 = 11 from by decide]
  refine g_iconst d_X1_begin_18 ik_0 ?_
  refine h_V4i d_X1_begin_19 cl_1_28 (m_a11_3 (p := 0) hk rfl rfl hkd (by simp) (by omega)) sp_Asks (by decide) rfl (Nat.le_of_ble_eq_true rfl) (by decide) ?_
  refine h_iret d_X1_begin_22 rfl ?_
  exact ⟨rfl, rfl⟩
theorem m_begin_0_4 {h : Hv} {k : Nat} (hk : k < 5) {m : Int32} (em : m = nI k) (hkd : h 16 k = 4) : MtF M_X1_begin 7 [.ref 333, .ref 15, .int m, .int 0] (h) (some (.int (h 17 k - 100))) (asH h [13, 10]) := by
  subst em
  refine MtF.of [some (.ref 333), some (.ref 15), some (.int (nI k)), some (.int 0)] pl_X1 rfl rfl ?_
  refine g_aload_n d_X1_begin_0 rfl ?_
  refine g_iconst d_X1_begin_1 ik_0 ?_
  refine h_putI d_X1_begin_2 fl_1_15 sp_Asks rfl ?_
  rw [asH_0]
  refine g_aload_n d_X1_begin_5 rfl ?_
  refine g_aload_n d_X1_begin_6 rfl ?_
  refine g_iload_n d_X1_begin_7 rfl ?_
  refine g_iload_n d_X1_begin_8 rfl ?_
  refine g_aload_n d_X1_begin_9 rfl ?_
  refine h_getR d_X1_begin_10 fl_1_19 (sp_hall hall_15) rfl ?_
  refine g_iload_n d_X1_begin_13 rfl ?_
  refine h_aldV (k := k) (v := 4) d_X1_begin_14 (sp_h1 hall_15) rfl (by omega) (by decide) ((asH_o (by decide) (by decide)).trans hkd) ?_
  refine h_S2i d_X1_begin_15 cl_1_24 (m_bodyFor (Or.inr ⟨4, by decide, rfl⟩)) (Nat.le_of_ble_eq_true rfl) (by decide) ?_
  rw [show bdF 0 6 0 4 = 13 from by decide]
  refine g_iconst d_X1_begin_18 ik_0 ?_
  refine h_V4i d_X1_begin_19 cl_1_28 (m_a13 (p := 0) hk rfl rfl  (by simp) (by omega)) sp_Asks (by decide) rfl (Nat.le_of_ble_eq_true rfl) (by decide) ?_
  refine h_iret d_X1_begin_22 rfl ?_
  exact ⟨rfl, rfl⟩
theorem m_begin_0_5 {h : Hv} {k : Nat} (hk : k < 5) {m : Int32} (em : m = nI k) (hkd : h 16 k = 5) : MtF M_X1_begin 7 [.ref 333, .ref 15, .int m, .int 0] (h) (some (.int ((h 17 k - 100) * 2))) (asH h [14, 13, 10]) := by
  subst em
  refine MtF.of [some (.ref 333), some (.ref 15), some (.int (nI k)), some (.int 0)] pl_X1 rfl rfl ?_
  refine g_aload_n d_X1_begin_0 rfl ?_
  refine g_iconst d_X1_begin_1 ik_0 ?_
  refine h_putI d_X1_begin_2 fl_1_15 sp_Asks rfl ?_
  rw [asH_0]
  refine g_aload_n d_X1_begin_5 rfl ?_
  refine g_aload_n d_X1_begin_6 rfl ?_
  refine g_iload_n d_X1_begin_7 rfl ?_
  refine g_iload_n d_X1_begin_8 rfl ?_
  refine g_aload_n d_X1_begin_9 rfl ?_
  refine h_getR d_X1_begin_10 fl_1_19 (sp_hall hall_15) rfl ?_
  refine g_iload_n d_X1_begin_13 rfl ?_
  refine h_aldV (k := k) (v := 5) d_X1_begin_14 (sp_h1 hall_15) rfl (by omega) (by decide) ((asH_o (by decide) (by decide)).trans hkd) ?_
  refine h_S2i d_X1_begin_15 cl_1_24 (m_bodyFor (Or.inr ⟨5, by decide, rfl⟩)) (Nat.le_of_ble_eq_true rfl) (by decide) ?_
  rw [show bdF 0 6 0 5 = 14 from by decide]
  refine g_iconst d_X1_begin_18 ik_0 ?_
  refine h_V4i d_X1_begin_19 cl_1_28 (m_a14 (p := 0) hk rfl rfl  (by simp) (by omega)) sp_Asks (by decide) rfl (Nat.le_of_ble_eq_true rfl) (by decide) ?_
  refine h_iret d_X1_begin_22 rfl ?_
  exact ⟨rfl, rfl⟩
theorem m_begin_1_1 {h : Hv} {k : Nat} (hk : k < 5) {m : Int32} (em : m = nI k) (hkd : h 16 k = 1) : MtF M_X1_begin 7 [.ref 333, .ref 15, .int m, .int 1] (h) (some (.int (nI k + h 21 k))) (asH h [21, 20]) := by
  subst em
  refine MtF.of [some (.ref 333), some (.ref 15), some (.int (nI k)), some (.int 1)] pl_X1 rfl rfl ?_
  refine g_aload_n d_X1_begin_0 rfl ?_
  refine g_iconst d_X1_begin_1 ik_0 ?_
  refine h_putI d_X1_begin_2 fl_1_15 sp_Asks rfl ?_
  rw [asH_0]
  refine g_aload_n d_X1_begin_5 rfl ?_
  refine g_aload_n d_X1_begin_6 rfl ?_
  refine g_iload_n d_X1_begin_7 rfl ?_
  refine g_iload_n d_X1_begin_8 rfl ?_
  refine g_aload_n d_X1_begin_9 rfl ?_
  refine h_getR d_X1_begin_10 fl_1_19 (sp_hall hall_15) rfl ?_
  refine g_iload_n d_X1_begin_13 rfl ?_
  refine h_aldV (k := k) (v := 1) d_X1_begin_14 (sp_h1 hall_15) rfl (by omega) (by decide) ((asH_o (by decide) (by decide)).trans hkd) ?_
  refine h_S2i d_X1_begin_15 cl_1_24 (m_bodyFor (Or.inr ⟨1, by decide, rfl⟩)) (Nat.le_of_ble_eq_true rfl) (by decide) ?_
  rw [show bdF 1 6 0 1 = 21 from by decide]
  refine g_iconst d_X1_begin_18 ik_0 ?_
  refine h_V4i d_X1_begin_19 cl_1_28 (m_a21 (p := 0) hk rfl rfl  (by simp) (by omega)) sp_Asks (by decide) rfl (Nat.le_of_ble_eq_true rfl) (by decide) ?_
  refine h_iret d_X1_begin_22 rfl ?_
  exact ⟨rfl, rfl⟩
theorem m_begin_1_2 {h : Hv} {k : Nat} (hk : k < 5) {m : Int32} (em : m = nI k) (hkd : h 16 k = 2) : MtF M_X1_begin 7 [.ref 333, .ref 15, .int m, .int 1] (h) (some (.int ((nI k + h 21 k) * 2))) (asH h [24, 21, 20]) := by
  subst em
  refine MtF.of [some (.ref 333), some (.ref 15), some (.int (nI k)), some (.int 1)] pl_X1 rfl rfl ?_
  refine g_aload_n d_X1_begin_0 rfl ?_
  refine g_iconst d_X1_begin_1 ik_0 ?_
  refine h_putI d_X1_begin_2 fl_1_15 sp_Asks rfl ?_
  rw [asH_0]
  refine g_aload_n d_X1_begin_5 rfl ?_
  refine g_aload_n d_X1_begin_6 rfl ?_
  refine g_iload_n d_X1_begin_7 rfl ?_
  refine g_iload_n d_X1_begin_8 rfl ?_
  refine g_aload_n d_X1_begin_9 rfl ?_
  refine h_getR d_X1_begin_10 fl_1_19 (sp_hall hall_15) rfl ?_
  refine g_iload_n d_X1_begin_13 rfl ?_
  refine h_aldV (k := k) (v := 2) d_X1_begin_14 (sp_h1 hall_15) rfl (by omega) (by decide) ((asH_o (by decide) (by decide)).trans hkd) ?_
  refine h_S2i d_X1_begin_15 cl_1_24 (m_bodyFor (Or.inr ⟨2, by decide, rfl⟩)) (Nat.le_of_ble_eq_true rfl) (by decide) ?_
  rw [show bdF 1 6 0 2 = 24 from by decide]
  refine g_iconst d_X1_begin_18 ik_0 ?_
  refine h_V4i d_X1_begin_19 cl_1_28 (m_a24 (p := 0) hk rfl rfl  (by simp) (by omega)) sp_Asks (by decide) rfl (Nat.le_of_ble_eq_true rfl) (by decide) ?_
  refine h_iret d_X1_begin_22 rfl ?_
  exact ⟨rfl, rfl⟩
theorem m_begin_1_3 {h : Hv} {k : Nat} (hk : k < 5) {m : Int32} (em : m = nI k) (hkd : h 16 k = 3) : MtF M_X1_begin 7 [.ref 333, .ref 15, .int m, .int 1] (h) (some (.int (nI k + h 21 k - 1000))) (asH h [22, 21, 20]) := by
  subst em
  refine MtF.of [some (.ref 333), some (.ref 15), some (.int (nI k)), some (.int 1)] pl_X1 rfl rfl ?_
  refine g_aload_n d_X1_begin_0 rfl ?_
  refine g_iconst d_X1_begin_1 ik_0 ?_
  refine h_putI d_X1_begin_2 fl_1_15 sp_Asks rfl ?_
  rw [asH_0]
  refine g_aload_n d_X1_begin_5 rfl ?_
  refine g_aload_n d_X1_begin_6 rfl ?_
  refine g_iload_n d_X1_begin_7 rfl ?_
  refine g_iload_n d_X1_begin_8 rfl ?_
  refine g_aload_n d_X1_begin_9 rfl ?_
  refine h_getR d_X1_begin_10 fl_1_19 (sp_hall hall_15) rfl ?_
  refine g_iload_n d_X1_begin_13 rfl ?_
  refine h_aldV (k := k) (v := 3) d_X1_begin_14 (sp_h1 hall_15) rfl (by omega) (by decide) ((asH_o (by decide) (by decide)).trans hkd) ?_
  refine h_S2i d_X1_begin_15 cl_1_24 (m_bodyFor (Or.inr ⟨3, by decide, rfl⟩)) (Nat.le_of_ble_eq_true rfl) (by decide) ?_
  rw [show bdF 1 6 0 3 = 22 from by decide]
  refine g_iconst d_X1_begin_18 ik_0 ?_
  refine h_V4i d_X1_begin_19 cl_1_28 (m_a22 (p := 0) hk rfl rfl  (by simp) (by omega)) sp_Asks (by decide) rfl (Nat.le_of_ble_eq_true rfl) (by decide) ?_
  refine h_iret d_X1_begin_22 rfl ?_
  exact ⟨rfl, rfl⟩
theorem m_begin_1_4 {h : Hv} {k : Nat} (hk : k < 5) {m : Int32} (em : m = nI k) (hkd : h 16 k = 4) : MtF M_X1_begin 7 [.ref 333, .ref 15, .int m, .int 1] (h) (some (.int (nI k - (h 17 k - 100)))) (asH h [23, 20, 13, 10]) := by
  subst em
  refine MtF.of [some (.ref 333), some (.ref 15), some (.int (nI k)), some (.int 1)] pl_X1 rfl rfl ?_
  refine g_aload_n d_X1_begin_0 rfl ?_
  refine g_iconst d_X1_begin_1 ik_0 ?_
  refine h_putI d_X1_begin_2 fl_1_15 sp_Asks rfl ?_
  rw [asH_0]
  refine g_aload_n d_X1_begin_5 rfl ?_
  refine g_aload_n d_X1_begin_6 rfl ?_
  refine g_iload_n d_X1_begin_7 rfl ?_
  refine g_iload_n d_X1_begin_8 rfl ?_
  refine g_aload_n d_X1_begin_9 rfl ?_
  refine h_getR d_X1_begin_10 fl_1_19 (sp_hall hall_15) rfl ?_
  refine g_iload_n d_X1_begin_13 rfl ?_
  refine h_aldV (k := k) (v := 4) d_X1_begin_14 (sp_h1 hall_15) rfl (by omega) (by decide) ((asH_o (by decide) (by decide)).trans hkd) ?_
  refine h_S2i d_X1_begin_15 cl_1_24 (m_bodyFor (Or.inr ⟨4, by decide, rfl⟩)) (Nat.le_of_ble_eq_true rfl) (by decide) ?_
  rw [show bdF 1 6 0 4 = 23 from by decide]
  refine g_iconst d_X1_begin_18 ik_0 ?_
  refine h_V4i d_X1_begin_19 cl_1_28 (m_a23_4 (p := 0) hk rfl rfl hkd (by simp) (by omega)) sp_Asks (by decide) rfl (Nat.le_of_ble_eq_true rfl) (by decide) ?_
  refine h_iret d_X1_begin_22 rfl ?_
  exact ⟨rfl, rfl⟩
theorem m_begin_1_5 {h : Hv} {k : Nat} (hk : k < 5) {m : Int32} (em : m = nI k) (hkd : h 16 k = 5) : MtF M_X1_begin 7 [.ref 333, .ref 15, .int m, .int 1] (h) (some (.int (nI k - ((h 17 k - 100) * 2)))) (asH h [23, 20, 14, 13, 10]) := by
  subst em
  refine MtF.of [some (.ref 333), some (.ref 15), some (.int (nI k)), some (.int 1)] pl_X1 rfl rfl ?_
  refine g_aload_n d_X1_begin_0 rfl ?_
  refine g_iconst d_X1_begin_1 ik_0 ?_
  refine h_putI d_X1_begin_2 fl_1_15 sp_Asks rfl ?_
  rw [asH_0]
  refine g_aload_n d_X1_begin_5 rfl ?_
  refine g_aload_n d_X1_begin_6 rfl ?_
  refine g_iload_n d_X1_begin_7 rfl ?_
  refine g_iload_n d_X1_begin_8 rfl ?_
  refine g_aload_n d_X1_begin_9 rfl ?_
  refine h_getR d_X1_begin_10 fl_1_19 (sp_hall hall_15) rfl ?_
  refine g_iload_n d_X1_begin_13 rfl ?_
  refine h_aldV (k := k) (v := 5) d_X1_begin_14 (sp_h1 hall_15) rfl (by omega) (by decide) ((asH_o (by decide) (by decide)).trans hkd) ?_
  refine h_S2i d_X1_begin_15 cl_1_24 (m_bodyFor (Or.inr ⟨5, by decide, rfl⟩)) (Nat.le_of_ble_eq_true rfl) (by decide) ?_
  rw [show bdF 1 6 0 5 = 23 from by decide]
  refine g_iconst d_X1_begin_18 ik_0 ?_
  refine h_V4i d_X1_begin_19 cl_1_28 (m_a23_5 (p := 0) hk rfl rfl hkd (by simp) (by omega)) sp_Asks (by decide) rfl (Nat.le_of_ble_eq_true rfl) (by decide) ?_
  refine h_iret d_X1_begin_22 rfl ?_
  exact ⟨rfl, rfl⟩

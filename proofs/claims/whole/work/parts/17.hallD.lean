/-! small sets of bits -/
def popN (n : Nat) : Nat := n % 2 + n / 2 % 2 + n / 4 % 2 + n / 8 % 2 + n / 16 % 2 + n / 32 % 2
def ush (x k : Int32) : Int32 := (x.toUInt32 >>> (k.toUInt32 &&& Int32.toUInt32 31)).toInt32
def bc1 (x : Int32) : Int32 := x - (ush x 1 &&& 1431655765)
def bc2 (x : Int32) : Int32 := (x &&& 858993459) + (ush x 2 &&& 858993459)
def bc3 (x : Int32) : Int32 := x + ush x 4 &&& 252645135
def bc4 (x : Int32) : Int32 := x + ush x 8
def bc5 (x : Int32) : Int32 := x + ush x 16
def bcE (x : Int32) : Int32 := bc5 (bc4 (bc3 (bc2 (bc1 x)))) &&& 63
theorem bcE_ok : ∀ n, n < 64 → bcE (nI n) = nI (popN n) := by decide +kernel
theorem or_bit : ∀ n, n < 6 → ∀ a, a < 2 ^ n → nI a ||| 1 <<< (nI n &&& 31) = nI (a + 2 ^ n) := by decide +kernel
theorem pop_bit : ∀ n, n < 6 → ∀ a, a < 2 ^ n → popN (a + 2 ^ n) = popN a + 1 := by decide +kernel
/-- which loads are so, as a number; how many -/
def whN (g : Hv) (w : Int32) : Nat → Nat
  | 0 => 0
  | n + 1 => if g 9 n = w then whN g w n + 2 ^ n else whN g w n
def cntS (g : Hv) (w : Int32) : Nat → Nat
  | 0 => 0
  | n + 1 => if g 9 n = w then cntS g w n + 1 else cntS g w n
theorem whN_lt (g : Hv) (w : Int32) : ∀ n, whN g w n < 2 ^ n
  | 0 => Nat.zero_lt_one
  | n + 1 => by
    have ih := whN_lt g w n
    rw [whN, Nat.pow_succ]
    split <;> omega
theorem whS_eq (g : Hv) (w : Int32) : ∀ n, n ≤ 6 → whS g w n = nI (whN g w n)
  | 0, _ => rfl
  | n + 1, h => by
    rw [whS, whN, whS_eq g w n (by omega)]
    split
    · exact or_bit n (by omega) _ (whN_lt g w n)
    · rfl
theorem cntS_eq (g : Hv) (w : Int32) : ∀ n, n ≤ 6 → popN (whN g w n) = cntS g w n
  | 0, _ => by
    rw [whN, cntS]
    decide
  | n + 1, h => by
    rw [whN, cntS]
    split
    · rw [pop_bit n (by omega) _ (whN_lt g w n), cntS_eq g w n (by omega)]
    · exact cntS_eq g w n (by omega)
theorem pow6 {n : Nat} (h : n ≤ 6) : 2 ^ n ≤ 64 := by
  have := Nat.pow_le_pow_right (show 0 < 2 by decide) h
  simpa using this
theorem m_bitCount {h : Hv} {z : Int32} {n : Nat} (ez : z = nI n) (hn : n < 64) : MtF M_J6_bitCount_0f7a4 0 [.int z] h (some (.int (nI (popN n)))) h := by
  subst ez
  rw [← bcE_ok n hn]
  refine MtF.of [some (.int (nI n))] pl_J6 rfl rfl ?_
  refine g_iload_n d_J6_bitCount_0f7a4_0 rfl ?_
  refine g_iload_n d_J6_bitCount_0f7a4_1 rfl ?_
  refine g_iconst d_J6_bitCount_0f7a4_2 ik_1 ?_
  refine g_iushr d_J6_bitCount_0f7a4_3 ?_
  refine g_ldcw d_J6_bitCount_0f7a4_4 kc_J6_265 ?_
  refine g_iand d_J6_bitCount_0f7a4_7 ?_
  refine g_isub d_J6_bitCount_0f7a4_8 ?_
  refine w_istore_n (L' := [_]) d_J6_bitCount_0f7a4_9 rfl rfl rfl ?_
  refine g_iload_n d_J6_bitCount_0f7a4_10 rfl ?_
  refine g_ldcw d_J6_bitCount_0f7a4_11 kc_J6_266 ?_
  refine g_iand d_J6_bitCount_0f7a4_14 ?_
  refine g_iload_n d_J6_bitCount_0f7a4_15 rfl ?_
  refine g_iconst d_J6_bitCount_0f7a4_16 ik_2 ?_
  refine g_iushr d_J6_bitCount_0f7a4_17 ?_
  refine g_ldcw d_J6_bitCount_0f7a4_18 kc_J6_266 ?_
  refine g_iand d_J6_bitCount_0f7a4_21 ?_
  refine g_iadd d_J6_bitCount_0f7a4_22 ?_
  refine w_istore_n (L' := [_]) d_J6_bitCount_0f7a4_23 rfl rfl rfl ?_
  refine g_iload_n d_J6_bitCount_0f7a4_24 rfl ?_
  refine g_iload_n d_J6_bitCount_0f7a4_25 rfl ?_
  refine g_iconst d_J6_bitCount_0f7a4_26 ik_4 ?_
  refine g_iushr d_J6_bitCount_0f7a4_27 ?_
  refine g_iadd d_J6_bitCount_0f7a4_28 ?_
  refine g_ldcw d_J6_bitCount_0f7a4_29 kc_J6_267 ?_
  refine g_iand d_J6_bitCount_0f7a4_32 ?_
  refine w_istore_n (L' := [_]) d_J6_bitCount_0f7a4_33 rfl rfl rfl ?_
  refine g_iload_n d_J6_bitCount_0f7a4_34 rfl ?_
  refine g_iload_n d_J6_bitCount_0f7a4_35 rfl ?_
  refine g_bipush d_J6_bitCount_0f7a4_36 bk_8 ?_
  refine g_iushr d_J6_bitCount_0f7a4_38 ?_
  refine g_iadd d_J6_bitCount_0f7a4_39 ?_
  refine w_istore_n (L' := [_]) d_J6_bitCount_0f7a4_40 rfl rfl rfl ?_
  refine g_iload_n d_J6_bitCount_0f7a4_41 rfl ?_
  refine g_iload_n d_J6_bitCount_0f7a4_42 rfl ?_
  refine g_bipush d_J6_bitCount_0f7a4_43 bk_16 ?_
  refine g_iushr d_J6_bitCount_0f7a4_45 ?_
  refine g_iadd d_J6_bitCount_0f7a4_46 ?_
  refine w_istore_n (L' := [_]) d_J6_bitCount_0f7a4_47 rfl rfl rfl ?_
  refine g_iload_n d_J6_bitCount_0f7a4_48 rfl ?_
  refine g_bipush d_J6_bitCount_0f7a4_49 bk_63 ?_
  refine g_iand d_J6_bitCount_0f7a4_51 ?_
  refine h_iret d_J6_bitCount_0f7a4_52 rfl ?_
  exact ⟨rfl, rfl⟩
theorem m_howManyAre {o : Nat} {h g : Hv} (ho : isHall o) {N : Nat} (hN : g 0 3 = nI N) (hN6 : N ≤ 6) {w : Int32} : MtF M_X2_howManyAre 1 [.ref o, .int w] (pu h o g) (some (.int (nI (cntS g w N)))) (pu h o g) := by
  refine MtF.of [some (.ref o), some (.int w)] pl_X2 rfl rfl ?_
  refine g_aload_n d_X2_howManyAre_0 rfl ?_
  refine g_iload_n d_X2_howManyAre_1 rfl ?_
  refine h_V1i d_X2_howManyAre_2 cl_2_117 (m_whichAre ho hN hN6) (sp_hall ho) (by decide) rfl (Nat.le_of_ble_eq_true rfl) (by decide) ?_
  refine h_S1i d_X2_howManyAre_5 cl_2_120 (m_bitCount (whS_eq g w N hN6) (Nat.lt_of_lt_of_le (whN_lt g w N) (pow6 hN6))) (Nat.le_of_ble_eq_true rfl) (by decide) ?_
  refine h_iret d_X2_howManyAre_8 rfl ?_
  exact pF (by rw [cntS_eq g w N hN6]) rfl
theorem cntS_le (g : Hv) (w : Int32) : ∀ n, cntS g w n ≤ n
  | 0 => Nat.le_refl 0
  | n + 1 => by
    have := cntS_le g w n
    rw [cntS]
    split <;> omega
theorem m_isAllDry {o : Nat} {h g : Hv} (ho : isHall o) {N : Nat} (hN : g 0 3 = nI N) (hN6 : N ≤ 6) : MtF M_X2_isAllDry 2 [.ref o] (pu h o g) (some (.int (b2i (cntS g 2 N = N)))) (pu h o g) := by
  refine MtF.of [some (.ref o)] pl_X2 rfl rfl ?_
  refine g_aload_n d_X2_isAllDry_0 rfl ?_
  refine g_iconst d_X2_isAllDry_1 ik_2 ?_
  refine h_V1i d_X2_isAllDry_2 cl_2_125 (m_howManyAre ho hN hN6) (sp_hall ho) (by decide) rfl (Nat.le_of_ble_eq_true rfl) (by decide) ?_
  refine g_aload_n d_X2_isAllDry_5 rfl ?_
  refine hh_getV (v := nI N) d_X2_isAllDry_6 fl_2_55 ho (by decide) (hN) ?_
  refine g_icmp_ne d_X2_isAllDry_9 (fun c9 => ?_) (fun c9 => ?_)
  · refine g_iconst d_X2_isAllDry_16 ik_0 ?_
    refine h_zret d_X2_isAllDry_17 rfl rfl ?_
    refine pF ?_ rfl
    have hle := cntS_le g 2 N
    first | (rw [b2i_t ((nI_eq (by omega) (by omega)).mp c9)]; done) | (rw [b2i_f (fun z => c9 (congrArg nI z))]; done)
  · refine g_iconst d_X2_isAllDry_12 ik_1 ?_
    refine g_goto d_X2_isAllDry_13 ?_
    refine h_zret d_X2_isAllDry_17 rfl rfl ?_
    refine pF ?_ rfl
    have hle := cntS_le g 2 N
    first | (rw [b2i_t ((nI_eq (by omega) (by omega)).mp c9)]; done) | (rw [b2i_f (fun z => c9 (congrArg nI z))]; done)
def drawS (g : Hv) (X M N : Nat) : Hv :=
  if g 9 (X % N) = 2 then hset (dirtS g (X % N) (nI (X % 9 + 1))) 8 (X % N) (if g 0 1 + nI (X % 20) < 99 then g 0 1 + nI (X % 20) else 99)
  else if X % 3 = 0 then hset g 0 4 (g 0 4 ^^^ 1 <<< (nI (X % M) &&& 31)) else g
theorem m_draw {o : Nat} {h g : Hv} (ho : isHall o) {M N : Nat} (hM : g 0 2 = nI M) (hM5 : M ≤ 5) (hM0 : 0 < M) (hN : g 0 3 = nI N) (hN6 : N ≤ 6) (hN0 : 0 < N) {z : Int32} {X : Nat} (ez : z = nI X) (hX : X < 2 ^ 31) : MtF M_X2_draw 1 [.ref o, .int z] (pu h o g) (none) (pu h o (drawS g X M N)) := by
  subst ez
  refine MtF.of [some (.ref o), some (.int (nI X)), none] pl_X2 rfl rfl ?_
  refine g_aload_n d_X2_draw_0 rfl ?_
  refine hh_getV (v := nI N) d_X2_draw_1 fl_2_55 ho (by decide) (hN) ?_
  refine g_if_eq d_X2_draw_4 (fun c4 => absurd c4 (nI_ne0 hN0 (by omega))) (fun c4 => ?_)
  refine g_aload_n d_X2_draw_7 rfl ?_
  refine hh_getV (v := nI M) d_X2_draw_8 fl_2_52 ho (by decide) (hM) ?_
  refine g_if_ne d_X2_draw_11 (fun c11 => ?_) (fun c11 => absurd c11 (nI_ne0 hM0 (by omega)))
  refine g_iload_n d_X2_draw_15 rfl ?_
  refine g_aload_n d_X2_draw_16 rfl ?_
  refine hh_getV (v := nI N) d_X2_draw_17 fl_2_55 ho (by decide) (hN) ?_
  refine g_irem d_X2_draw_20 (nI_ne0 hN0 (by omega)) ?_
  have el : nI X - nI X / nI N * nI N = nI (X % N) := pk_rem hX hN0 (by omega)
  rw [el]
  have hlN : X % N < N := Nat.mod_lt X hN0
  refine w_istore_n (L' := [_, _, _]) d_X2_draw_21 rfl rfl rfl ?_
  refine g_aload_n d_X2_draw_22 rfl ?_
  refine h_getR d_X2_draw_23 fl_2_36 (sp_hall ho) rfl ?_
  refine g_iload_n d_X2_draw_26 rfl ?_
  refine hh_aldE (k := (X % N)) d_X2_draw_27 (sp_h9 ho) (by decide) rfl (by omega) (by decide) ?_
  refine g_iconst d_X2_draw_28 ik_2 ?_
  refine g_icmp_ne d_X2_draw_29 (fun c29 => ?_) (fun c29 => ?_)
  · refine g_iload_n d_X2_draw_66 rfl ?_
    refine g_iconst d_X2_draw_67 ik_3 ?_
    refine g_irem d_X2_draw_68 (by decide) ?_
    rw [show nI X - nI X / 3 * 3 = nI (X % 3) from pk_rem (d := 3) hX (by decide) (by decide)]
    refine g_if_ne d_X2_draw_69 (fun c69 => ?_) (fun c69 => ?_)
    · refine h_vret d_X2_draw_82 rfl ?_
      refine pF rfl ?_
      first | (rw [drawS, if_pos c29, nI_1]; simp [dirtS, hs_j]; done) | (rw [drawS, if_neg c29, if_pos (Decidable.byContradiction fun z9 => absurd c69 (nI_ne0 (by omega) (by omega)))]; done) | (rw [drawS, if_neg c29, if_neg (fun z9 => absurd (show nI (X % 3) = 0 by rw [z9]; rfl) c69)]; done)
    · refine g_aload_n d_X2_draw_72 rfl ?_
      refine g_iload_n d_X2_draw_73 rfl ?_
      refine g_aload_n d_X2_draw_74 rfl ?_
      refine hh_getV (v := nI M) d_X2_draw_75 fl_2_52 ho (by decide) (hM) ?_
      refine g_irem d_X2_draw_78 (nI_ne0 hM0 (by omega)) ?_
      rw [show nI X - nI X / nI M * nI M = nI (X % M) from pk_rem hX hM0 (by omega)]
      refine h_V1v d_X2_draw_79 cl_2_110 (m_turn ho) (sp_hall ho) (by decide) rfl (Nat.le_of_ble_eq_true rfl) (by decide) ?_
      refine h_vret d_X2_draw_82 rfl ?_
      refine pF rfl ?_
      first | (rw [drawS, if_pos c29, nI_1]; simp [dirtS, hs_j]; done) | (rw [drawS, if_neg c29, if_pos (Decidable.byContradiction fun z9 => absurd c69 (nI_ne0 (by omega) (by omega)))]; done) | (rw [drawS, if_neg c29, if_neg (fun z9 => absurd (show nI (X % 3) = 0 by rw [z9]; rfl) c69)]; done)
  · refine g_aload_n d_X2_draw_32 rfl ?_
    refine g_iload_n d_X2_draw_33 rfl ?_
    refine g_iload_n d_X2_draw_34 rfl ?_
    refine g_bipush d_X2_draw_35 bk_9 ?_
    refine g_irem d_X2_draw_37 (by decide) ?_
    rw [show nI X - nI X / 9 * 9 = nI (X % 9) from pk_rem (d := 9) hX (by decide) (by decide)]
    refine g_iconst d_X2_draw_38 ik_1 ?_
    refine g_iadd d_X2_draw_39 ?_
    refine h_V2v d_X2_draw_40 cl_2_67 (m_dirty ho rfl (by omega)) (sp_hall ho) (by decide) rfl (Nat.le_of_ble_eq_true rfl) (by decide) ?_
    refine g_aload_n d_X2_draw_43 rfl ?_
    refine h_getR d_X2_draw_44 fl_2_33 (sp_hall ho) rfl ?_
    refine g_iload_n d_X2_draw_47 rfl ?_
    refine g_bipush d_X2_draw_48 bk_99 ?_
    refine g_aload_n d_X2_draw_50 rfl ?_
    refine hh_getI d_X2_draw_51 fl_2_49 ho (by decide) ?_
    refine g_iload_n d_X2_draw_54 rfl ?_
    refine g_bipush d_X2_draw_55 bk_20 ?_
    refine g_irem d_X2_draw_57 (by decide) ?_
    rw [show nI X - nI X / 20 * 20 = nI (X % 20) from pk_rem (d := 20) hX (by decide) (by decide)]
    refine g_iadd d_X2_draw_58 ?_
    refine g_mmin d_X2_draw_59 mx_2_101 (Nat.le_of_ble_eq_true rfl) (by decide) ?_
    refine hh_astE (k := (X % N)) d_X2_draw_62 (sp_h8 ho) (by decide) rfl (by omega) (by decide) ?_
    refine g_goto d_X2_draw_63 ?_
    refine h_vret d_X2_draw_82 rfl ?_
    refine pF rfl ?_
    first | (rw [drawS, if_pos c29, nI_1]; simp [dirtS, hs_j]; done) | (rw [drawS, if_neg c29, if_pos (Decidable.byContradiction fun z9 => absurd c69 (nI_ne0 (by omega) (by omega)))]; done) | (rw [drawS, if_neg c29, if_neg (fun z9 => absurd (show nI (X % 3) = 0 by rw [z9]; rfl) c69)]; done)
theorem m_addLoad {o : Nat} {h g : Hv} (ho : isHall o) {n : Nat} (hN : g 0 3 = nI n) (hn : n < 6) {z u : Int32} : MtF M_X2_addLoad 1 [.ref o, .int z, .int u] (pu h o g) (none) (pu h o (addL g n z u)) := by
  refine MtF.of [some (.ref o), some (.int z), some (.int u)] pl_X2 rfl rfl ?_
  refine g_aload_n d_X2_addLoad_0 rfl ?_
  refine hh_getV (v := nI n) d_X2_addLoad_1 fl_2_55 ho (by decide) (by simp [hs_j, dirtS, hN]) ?_
  refine g_bipush d_X2_addLoad_4 bk_6 ?_
  refine g_icmp_lt d_X2_addLoad_6 (fun c6 => ?_) (fun c6 => absurd (nI_lt hn (by decide)) c6)
  refine g_aload_n d_X2_addLoad_10 rfl ?_
  refine h_getR d_X2_addLoad_11 fl_2_33 (sp_hall ho) rfl ?_
  refine g_aload_n d_X2_addLoad_14 rfl ?_
  refine hh_getV (v := nI n) d_X2_addLoad_15 fl_2_55 ho (by decide) (by simp [hs_j, dirtS, hN]) ?_
  refine g_iload_n d_X2_addLoad_18 rfl ?_
  refine hh_astE (k := n) d_X2_addLoad_19 (sp_h8 ho) (by decide) rfl (by omega) (by decide) ?_
  refine g_aload_n d_X2_addLoad_20 rfl ?_
  refine h_getR d_X2_addLoad_21 fl_2_42 (sp_hall ho) rfl ?_
  refine g_aload_n d_X2_addLoad_24 rfl ?_
  refine hh_getV (v := nI n) d_X2_addLoad_25 fl_2_55 ho (by decide) (by simp [hs_j, dirtS, hN]) ?_
  refine g_aload_n d_X2_addLoad_28 rfl ?_
  refine hh_getV (v := nI n) d_X2_addLoad_29 fl_2_55 ho (by decide) (by simp [hs_j, dirtS, hN]) ?_
  refine hh_astE (k := n) d_X2_addLoad_32 (sp_h11 ho) (by decide) rfl (by omega) (by decide) ?_
  refine g_aload_n d_X2_addLoad_33 rfl ?_
  refine g_aload_n d_X2_addLoad_34 rfl ?_
  refine hh_getV (v := nI n) d_X2_addLoad_35 fl_2_55 ho (by decide) (by simp [hs_j, dirtS, hN]) ?_
  refine g_iload_n d_X2_addLoad_38 rfl ?_
  refine h_V2v d_X2_addLoad_39 cl_2_67 (m_dirty ho rfl hn) (sp_hall ho) (by decide) rfl (Nat.le_of_ble_eq_true rfl) (by decide) ?_
  refine g_aload_n d_X2_addLoad_42 rfl ?_
  refine g_dup d_X2_addLoad_43 rfl ?_
  refine hh_getV (v := nI n) d_X2_addLoad_44 fl_2_55 ho (by decide) (by simp [hs_j, dirtS, hN]) ?_
  refine g_iconst d_X2_addLoad_47 ik_1 ?_
  refine g_iadd d_X2_addLoad_48 ?_
  refine hh_putI d_X2_addLoad_49 fl_2_55 ho (by decide) ?_
  refine h_vret d_X2_addLoad_52 rfl ?_
  exact pF rfl (by simp [addL, nI_succ])
/-! one hall becomes as another -/
theorem halls_apart : ∀ a ∈ halls, ∀ b ∈ halls, a ≠ b → b + 12 ≤ a ∨ a + 12 ≤ b := by decide +kernel
theorem hall_apart {a b : Nat} (ha : isHall a) (hb : isHall b) (hn : a ≠ b) : b + 12 ≤ a ∨ a + 12 ≤ b := halls_apart a ha b hb hn
def cpj (g : Hv) (j n : Nat) (v : Hv) : Hv := fun x y => if x = j ∧ y < n then v x y else g x y
theorem hh_copy {M : Meth} {d pc pc' : Nat} {L : List (Option Value)} {st : List Value} {h g : Hv} {P : Option Value → Hv → Prop} {idx o q j n : Nat} {n' : Int32} (hd : Dc M.2.1 pc (.invokestatic idx) 3 pc') (hc : ACopy M.1.cls idx) (ha : SP[q + j]? = some (8, List.replicate n none)) (hb : SP[o + j]? = some (8, List.replicate n none)) (hap : q + 12 ≤ o ∨ o + 12 ≤ q) (hj : j < 12) (hn : n' = nI n) (hn2 : n < 100) (hd1 : 1 ≤ d) (hst : (st.map fun v => v.category).sum ≤ 8)
    (k : GdH M d pc' L st (pu h o (cpj g j n (vw h q))) P) : GdH M d pc L (.int n' :: .int 0 :: .ref (o + j) :: .int 0 :: .ref (q + j) :: st) (pu h o g) P := by
  subst hn
  have hcl : (nI n).toNatClampNeg = n := nI_clamp (by omega)
  have h0 : (0 : Int32).toNatClampNeg = 0 := by decide
  refine h_copy hd hc ha hb (by decide) (by decide) (nI_pos (by omega)) (by rw [hcl, h0]; omega) (by rw [hcl, h0]; omega) hd1 hst ?_
  rw [hcl, h0, blk_cpy (fun i hi => by omega) hj]
  have e : (fun x y => if x = j ∧ y < n then h (q + j) y else g x y) = cpj g j n (vw h q) := by
    funext x y
    unfold cpj vw
    by_cases hx : x = j ∧ y < n
    · rw [if_pos hx, if_pos hx, hx.1]
    · rw [if_neg hx, if_neg hx]
  rw [e]
  exact k
theorem pu_congr {h g g' : Hv} {o : Nat} (ho : isHall o) (h0 : ∀ b, b < 5 → g 0 b = g' 0 b) (h1 : ∀ x b, x ∈ [1, 2, 3, 4, 5, 6] → b < 5 → g x b = g' x b) (h2 : ∀ x b, x ∈ [7, 8, 9, 10, 11] → b < 6 → g x b = g' x b) : mk (pu h o g) = mk (pu h o g') := by
  refine mk_congr (fun a t sl ha b hb => ?_)
  have hok := halls_ok o ho
  by_cases hx : o ≤ a ∧ a < o + 12
  · obtain ⟨x, hx12, rfl⟩ : ∃ x, x < 12 ∧ a = o + x := ⟨a - o, by omega, by omega⟩
    rw [pu_at hx12, pu_at hx12]
    rcases Nat.eq_zero_or_pos x with e | e
    · subst e
      rw [Nat.add_zero, hok.1] at ha
      cases ha
      refine h0 b ?_
      rcases Nat.lt_or_ge b 5 with q | q
      · exact q
      · exfalso
        rcases Nat.lt_or_ge b 16 with r | r
        · rcases (show b = 5 ∨ b = 6 ∨ b = 7 ∨ b = 8 ∨ b = 9 ∨ b = 10 ∨ b = 11 ∨ b = 12 ∨ b = 13 ∨ b = 14 ∨ b = 15 by omega) with rfl | rfl | rfl | rfl | rfl | rfl | rfl | rfl | rfl | rfl | rfl <;> cases hb
        · rw [List.getElem?_eq_none (by simpa using r)] at hb
          cases hb
    · rcases Nat.lt_or_ge x 7 with q | q
      · have hm : x ∈ [1, 2, 3, 4, 5, 6] := by
          rcases (show x = 1 ∨ x = 2 ∨ x = 3 ∨ x = 4 ∨ x = 5 ∨ x = 6 by omega) with rfl | rfl | rfl | rfl | rfl | rfl <;> decide
        rw [hok.2.1 x hm] at ha
        cases ha
        refine h1 x b hm ?_
        have := (List.getElem?_eq_some_iff.mp hb).1
        simpa using this
      · have hm : x ∈ [7, 8, 9, 10, 11] := by
          rcases (show x = 7 ∨ x = 8 ∨ x = 9 ∨ x = 10 ∨ x = 11 by omega) with rfl | rfl | rfl | rfl | rfl <;> decide
        rw [hok.2.2 x hm] at ha
        cases ha
        refine h2 x b hm ?_
        have := (List.getElem?_eq_some_iff.mp hb).1
        simpa using this
  · rw [show pu h o g a b = h a b from blk_out (by omega), show pu h o g' a b = h a b from blk_out (by omega)]
theorem m_become' {o q : Nat} {h g : Hv} (ho : isHall o) (hq : isHall q) (hne : o ≠ q) : MtF M_X2_become 1 [.ref o, .ref q] (pu h o g) (none) (pu h o (vw h q)) := by
  have hap := hall_apart ho hq hne
  refine MtF.of [some (.ref o), some (.ref q)] pl_X2 rfl rfl ?_
  refine g_aload_n d_X2_become_0 rfl ?_
  refine g_aload_n d_X2_become_1 rfl ?_
  refine h_getV (v := vw h q 0 0) d_X2_become_2 fl_2_45 (sp_hall hq) rfl (blk_out (by omega)) ?_
  refine hh_putI d_X2_become_5 fl_2_45 ho (by decide) ?_
  refine g_aload_n d_X2_become_8 rfl ?_
  refine g_aload_n d_X2_become_9 rfl ?_
  refine h_getV (v := vw h q 0 1) d_X2_become_10 fl_2_49 (sp_hall hq) rfl (blk_out (by omega)) ?_
  refine hh_putI d_X2_become_13 fl_2_49 ho (by decide) ?_
  refine g_aload_n d_X2_become_16 rfl ?_
  refine g_aload_n d_X2_become_17 rfl ?_
  refine h_getV (v := vw h q 0 2) d_X2_become_18 fl_2_52 (sp_hall hq) rfl (blk_out (by omega)) ?_
  refine hh_putI d_X2_become_21 fl_2_52 ho (by decide) ?_
  refine g_aload_n d_X2_become_24 rfl ?_
  refine g_aload_n d_X2_become_25 rfl ?_
  refine h_getV (v := vw h q 0 3) d_X2_become_26 fl_2_55 (sp_hall hq) rfl (blk_out (by omega)) ?_
  refine hh_putI d_X2_become_29 fl_2_55 ho (by decide) ?_
  refine g_aload_n d_X2_become_32 rfl ?_
  refine g_aload_n d_X2_become_33 rfl ?_
  refine h_getV (v := vw h q 0 4) d_X2_become_34 fl_2_58 (sp_hall hq) rfl (blk_out (by omega)) ?_
  refine hh_putI d_X2_become_37 fl_2_58 ho (by decide) ?_
  refine g_aload_n d_X2_become_40 rfl ?_
  refine h_getR d_X2_become_41 fl_2_9 (sp_hall hq) rfl ?_
  refine g_iconst d_X2_become_44 ik_0 ?_
  refine g_aload_n d_X2_become_45 rfl ?_
  refine h_getR d_X2_become_46 fl_2_9 (sp_hall ho) rfl ?_
  refine g_iconst d_X2_become_49 ik_0 ?_
  refine g_iconst d_X2_become_50 ik_5 ?_
  refine hh_copy (j := 1) (n := 5) d_X2_become_51 ac_2_61 (sp_h1 hq) (sp_h1 ho) hap (by decide) rfl (by decide) (by decide) (Nat.le_of_ble_eq_true rfl) ?_
  refine g_aload_n d_X2_become_54 rfl ?_
  refine h_getR d_X2_become_55 fl_2_15 (sp_hall hq) rfl ?_
  refine g_iconst d_X2_become_58 ik_0 ?_
  refine g_aload_n d_X2_become_59 rfl ?_
  refine h_getR d_X2_become_60 fl_2_15 (sp_hall ho) rfl ?_
  refine g_iconst d_X2_become_63 ik_0 ?_
  refine g_iconst d_X2_become_64 ik_5 ?_
  refine hh_copy (j := 2) (n := 5) d_X2_become_65 ac_2_61 (sp_h2 hq) (sp_h2 ho) hap (by decide) rfl (by decide) (by decide) (Nat.le_of_ble_eq_true rfl) ?_
  refine g_aload_n d_X2_become_68 rfl ?_
  refine h_getR d_X2_become_69 fl_2_18 (sp_hall hq) rfl ?_
  refine g_iconst d_X2_become_72 ik_0 ?_
  refine g_aload_n d_X2_become_73 rfl ?_
  refine h_getR d_X2_become_74 fl_2_18 (sp_hall ho) rfl ?_
  refine g_iconst d_X2_become_77 ik_0 ?_
  refine g_iconst d_X2_become_78 ik_5 ?_
  refine hh_copy (j := 3) (n := 5) d_X2_become_79 ac_2_61 (sp_h3 hq) (sp_h3 ho) hap (by decide) rfl (by decide) (by decide) (Nat.le_of_ble_eq_true rfl) ?_
  refine g_aload_n d_X2_become_82 rfl ?_
  refine h_getR d_X2_become_83 fl_2_21 (sp_hall hq) rfl ?_
  refine g_iconst d_X2_become_86 ik_0 ?_
  refine g_aload_n d_X2_become_87 rfl ?_
  refine h_getR d_X2_become_88 fl_2_21 (sp_hall ho) rfl ?_
  refine g_iconst d_X2_become_91 ik_0 ?_
  refine g_iconst d_X2_become_92 ik_5 ?_
  refine hh_copy (j := 4) (n := 5) d_X2_become_93 ac_2_61 (sp_h4 hq) (sp_h4 ho) hap (by decide) rfl (by decide) (by decide) (Nat.le_of_ble_eq_true rfl) ?_
  refine g_aload_n d_X2_become_96 rfl ?_
  refine h_getR d_X2_become_97 fl_2_24 (sp_hall hq) rfl ?_
  refine g_iconst d_X2_become_100 ik_0 ?_
  refine g_aload_n d_X2_become_101 rfl ?_
  refine h_getR d_X2_become_102 fl_2_24 (sp_hall ho) rfl ?_
  refine g_iconst d_X2_become_105 ik_0 ?_
  refine g_iconst d_X2_become_106 ik_5 ?_
  refine hh_copy (j := 5) (n := 5) d_X2_become_107 ac_2_61 (sp_h5 hq) (sp_h5 ho) hap (by decide) rfl (by decide) (by decide) (Nat.le_of_ble_eq_true rfl) ?_
  refine g_aload_n d_X2_become_110 rfl ?_
  refine h_getR d_X2_become_111 fl_2_27 (sp_hall hq) rfl ?_
  refine g_iconst d_X2_become_114 ik_0 ?_
  refine g_aload_n d_X2_become_115 rfl ?_
  refine h_getR d_X2_become_116 fl_2_27 (sp_hall ho) rfl ?_
  refine g_iconst d_X2_become_119 ik_0 ?_
  refine g_iconst d_X2_become_120 ik_5 ?_
  refine hh_copy (j := 6) (n := 5) d_X2_become_121 ac_2_61 (sp_h6 hq) (sp_h6 ho) hap (by decide) rfl (by decide) (by decide) (Nat.le_of_ble_eq_true rfl) ?_
  refine g_aload_n d_X2_become_124 rfl ?_
  refine h_getR d_X2_become_125 fl_2_30 (sp_hall hq) rfl ?_
  refine g_iconst d_X2_become_128 ik_0 ?_
  refine g_aload_n d_X2_become_129 rfl ?_
  refine h_getR d_X2_become_130 fl_2_30 (sp_hall ho) rfl ?_
  refine g_iconst d_X2_become_133 ik_0 ?_
  refine g_bipush d_X2_become_134 bk_6 ?_
  refine hh_copy (j := 7) (n := 6) d_X2_become_136 ac_2_61 (sp_h7 hq) (sp_h7 ho) hap (by decide) rfl (by decide) (by decide) (Nat.le_of_ble_eq_true rfl) ?_
  refine g_aload_n d_X2_become_139 rfl ?_
  refine h_getR d_X2_become_140 fl_2_33 (sp_hall hq) rfl ?_
  refine g_iconst d_X2_become_143 ik_0 ?_
  refine g_aload_n d_X2_become_144 rfl ?_
  refine h_getR d_X2_become_145 fl_2_33 (sp_hall ho) rfl ?_
  refine g_iconst d_X2_become_148 ik_0 ?_
  refine g_bipush d_X2_become_149 bk_6 ?_
  refine hh_copy (j := 8) (n := 6) d_X2_become_151 ac_2_61 (sp_h8 hq) (sp_h8 ho) hap (by decide) rfl (by decide) (by decide) (Nat.le_of_ble_eq_true rfl) ?_
  refine g_aload_n d_X2_become_154 rfl ?_
  refine h_getR d_X2_become_155 fl_2_36 (sp_hall hq) rfl ?_
  refine g_iconst d_X2_become_158 ik_0 ?_
  refine g_aload_n d_X2_become_159 rfl ?_
  refine h_getR d_X2_become_160 fl_2_36 (sp_hall ho) rfl ?_
  refine g_iconst d_X2_become_163 ik_0 ?_
  refine g_bipush d_X2_become_164 bk_6 ?_
  refine hh_copy (j := 9) (n := 6) d_X2_become_166 ac_2_61 (sp_h9 hq) (sp_h9 ho) hap (by decide) rfl (by decide) (by decide) (Nat.le_of_ble_eq_true rfl) ?_
  refine g_aload_n d_X2_become_169 rfl ?_
  refine h_getR d_X2_become_170 fl_2_39 (sp_hall hq) rfl ?_
  refine g_iconst d_X2_become_173 ik_0 ?_
  refine g_aload_n d_X2_become_174 rfl ?_
  refine h_getR d_X2_become_175 fl_2_39 (sp_hall ho) rfl ?_
  refine g_iconst d_X2_become_178 ik_0 ?_
  refine g_bipush d_X2_become_179 bk_6 ?_
  refine hh_copy (j := 10) (n := 6) d_X2_become_181 ac_2_61 (sp_h10 hq) (sp_h10 ho) hap (by decide) rfl (by decide) (by decide) (Nat.le_of_ble_eq_true rfl) ?_
  refine g_aload_n d_X2_become_184 rfl ?_
  refine h_getR d_X2_become_185 fl_2_42 (sp_hall hq) rfl ?_
  refine g_iconst d_X2_become_188 ik_0 ?_
  refine g_aload_n d_X2_become_189 rfl ?_
  refine h_getR d_X2_become_190 fl_2_42 (sp_hall ho) rfl ?_
  refine g_iconst d_X2_become_193 ik_0 ?_
  refine g_bipush d_X2_become_194 bk_6 ?_
  refine hh_copy (j := 11) (n := 6) d_X2_become_196 ac_2_61 (sp_h11 hq) (sp_h11 ho) hap (by decide) rfl (by decide) (by decide) (Nat.le_of_ble_eq_true rfl) ?_
  refine h_as (pu_congr ho (g' := vw h q) (fun b hb => ?_) (fun x b hx hb => ?_) (fun x b hx hb => ?_)) ?_
  · rcases (show b = 0 ∨ b = 1 ∨ b = 2 ∨ b = 3 ∨ b = 4 by omega) with rfl | rfl | rfl | rfl | rfl <;> simp [cpj, hset, vw]
  · simp only [List.mem_cons, List.not_mem_nil, or_false] at hx
    rcases hx with rfl | rfl | rfl | rfl | rfl | rfl <;> simp [cpj, hb]
  · simp only [List.mem_cons, List.not_mem_nil, or_false] at hx
    rcases hx with rfl | rfl | rfl | rfl | rfl <;> simp [cpj, hb]
  refine h_vret d_X2_become_199 rfl ?_
  exact pF rfl rfl
theorem m_become {o q : Nat} {h : Hv} (ho : isHall o) (hq : isHall q) (hne : o ≠ q) : MtF M_X2_become 1 [.ref o, .ref q] h none (pu h o (vw h q)) := by
  have e := m_become' (h := h) (g := vw h o) ho hq hne
  rw [pu_vw] at e
  exact e

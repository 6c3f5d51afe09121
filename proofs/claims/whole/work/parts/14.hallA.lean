/-! what the class's hall does, by its view g: g 0: power, tick, machines, loads, openBits; 1 kinds, 2 rooms, 3 slows, 4 holds, 5 left, 6 done; 7 sizes, 8 dues, 9 hows, 10 ends, 11 ranks -/
def lastsS (g : Hv) (k l : Nat) : Int32 :=
  if g 1 k = 2 then (if 1 < (g 7 l + g 3 k) / 2 then (g 7 l + g 3 k) / 2 else 1)
  else if g 1 k = 3 then g 7 l + g 3 k + g 6 k / 3
  else if g 1 k = 4 then g 7 l / 2 + g 3 k + 1
  else if g 1 k = 5 then (if 1 < g 7 l / 2 + g 3 k + 1 - 1 then g 7 l / 2 + g 3 k + 1 - 1 else 1)
  else g 7 l + g 3 k
def outS (g : Hv) (k l : Nat) : Hv :=
  hset (hset (hset (if g 1 k ≤ 3 then hset g 9 l 1 else hset (hset g 9 l 2) 10 l (g 0 1)) 4 k (-1)) 5 k 0) 6 k (if g 6 k + 1 < 999 then g 6 k + 1 else 999)
def putS (g : Hv) (k l : Nat) : Hv := hset (hset (hset g 4 k (nI l)) 9 l (10 + nI k)) 5 k (lastsS g k l)
def lateS (g : Hv) (l : Nat) : Int32 := if 0 < (if g 9 l = 2 then g 10 l else g 0 1) - g 8 l then (if g 9 l = 2 then g 10 l else g 0 1) - g 8 l else 0
def dirtS (g : Hv) (l : Nat) (z : Int32) : Hv := hset (hset (hset g 7 l z) 9 l 0) 10 l 0
def clrS (g : Hv) : Hv := hset (hset (hset (hset (hset g 0 0 0) 0 1 0) 0 2 0) 0 3 0) 0 4 0
def addM (g : Hv) (n : Nat) (a b c : Int32) : Hv := hset (hset (hset (hset (hset (hset (hset (hset g 1 n a) 2 n b) 3 n c) 4 n (-1)) 5 n 0) 6 n 0) 0 4 (g 0 4 ||| 1 <<< (nI n &&& 31))) 0 2 (nI (n + 1))
def addL (g : Hv) (n : Nat) (z u : Int32) : Hv := hset (dirtS (hset (hset g 8 n u) 11 n (nI n)) n z) 0 3 (nI (n + 1))
theorem m_isNone {o : Nat} {h g : Hv} (ho : isHall o) : MtF M_X2_isNone 0 [.ref o] (pu h o g) (some (.int (b2i (g 0 2 = 0)))) (pu h o g) := by
  refine MtF.of [some (.ref o)] pl_X2 rfl rfl ?_
  refine g_aload_n d_X2_isNone_0 rfl ?_
  refine hh_getI d_X2_isNone_1 fl_2_52 ho (by decide) ?_
  refine g_if_ne d_X2_isNone_4 (fun c4 => ?_) (fun c4 => ?_)
  · refine g_iconst d_X2_isNone_11 ik_0 ?_
    refine h_zret d_X2_isNone_12 rfl rfl ?_
    exact pF (by simp [b2i, *]) rfl
  · refine g_iconst d_X2_isNone_7 ik_1 ?_
    refine g_goto d_X2_isNone_8 ?_
    refine h_zret d_X2_isNone_12 rfl rfl ?_
    exact pF (by simp [b2i, *]) rfl
theorem m_hasMachine {o : Nat} {h g : Hv} (ho : isHall o) {m : Int32} : MtF M_X2_hasMachine 0 [.ref o, .int m] (pu h o g) (some (.int (b2i (¬ m < 0 ∧ ¬ g 0 2 ≤ m)))) (pu h o g) := by
  refine MtF.of [some (.ref o), some (.int m)] pl_X2 rfl rfl ?_
  refine g_iload_n d_X2_hasMachine_0 rfl ?_
  refine g_if_lt d_X2_hasMachine_1 (fun c1 => ?_) (fun c1 => ?_)
  · refine g_iconst d_X2_hasMachine_16 ik_0 ?_
    refine h_zret d_X2_hasMachine_17 rfl rfl ?_
    exact pF (by simp [b2i, *]) rfl
  · refine g_iload_n d_X2_hasMachine_4 rfl ?_
    refine g_aload_n d_X2_hasMachine_5 rfl ?_
    refine hh_getI d_X2_hasMachine_6 fl_2_52 ho (by decide) ?_
    refine g_icmp_ge d_X2_hasMachine_9 (fun c9 => ?_) (fun c9 => ?_)
    · refine g_iconst d_X2_hasMachine_16 ik_0 ?_
      refine h_zret d_X2_hasMachine_17 rfl rfl ?_
      exact pF (by simp [b2i, *]) rfl
    · refine g_iconst d_X2_hasMachine_12 ik_1 ?_
      refine g_goto d_X2_hasMachine_13 ?_
      refine h_zret d_X2_hasMachine_17 rfl rfl ?_
      exact pF (by simp [b2i, *]) rfl
theorem m_hasLoad {o : Nat} {h g : Hv} (ho : isHall o) {m : Int32} : MtF M_X2_hasLoad 0 [.ref o, .int m] (pu h o g) (some (.int (b2i (¬ m < 0 ∧ ¬ g 0 3 ≤ m)))) (pu h o g) := by
  refine MtF.of [some (.ref o), some (.int m)] pl_X2 rfl rfl ?_
  refine g_iload_n d_X2_hasLoad_0 rfl ?_
  refine g_if_lt d_X2_hasLoad_1 (fun c1 => ?_) (fun c1 => ?_)
  · refine g_iconst d_X2_hasLoad_16 ik_0 ?_
    refine h_zret d_X2_hasLoad_17 rfl rfl ?_
    exact pF (by simp [b2i, *]) rfl
  · refine g_iload_n d_X2_hasLoad_4 rfl ?_
    refine g_aload_n d_X2_hasLoad_5 rfl ?_
    refine hh_getI d_X2_hasLoad_6 fl_2_55 ho (by decide) ?_
    refine g_icmp_ge d_X2_hasLoad_9 (fun c9 => ?_) (fun c9 => ?_)
    · refine g_iconst d_X2_hasLoad_16 ik_0 ?_
      refine h_zret d_X2_hasLoad_17 rfl rfl ?_
      exact pF (by simp [b2i, *]) rfl
    · refine g_iconst d_X2_hasLoad_12 ik_1 ?_
      refine g_goto d_X2_hasLoad_13 ?_
      refine h_zret d_X2_hasLoad_17 rfl rfl ?_
      exact pF (by simp [b2i, *]) rfl
theorem m_isOpen {o : Nat} {h g : Hv} (ho : isHall o) {m : Int32} : MtF M_X2_isOpen 0 [.ref o, .int m] (pu h o g) (some (.int (b2i (g 0 4 >>> (m &&& 31) &&& 1 = 1)))) (pu h o g) := by
  refine MtF.of [some (.ref o), some (.int m)] pl_X2 rfl rfl ?_
  refine g_aload_n d_X2_isOpen_0 rfl ?_
  refine hh_getI d_X2_isOpen_1 fl_2_58 ho (by decide) ?_
  refine g_iload_n d_X2_isOpen_4 rfl ?_
  refine g_ishr d_X2_isOpen_5 ?_
  refine g_iconst d_X2_isOpen_6 ik_1 ?_
  refine g_iand d_X2_isOpen_7 ?_
  refine g_iconst d_X2_isOpen_8 ik_1 ?_
  refine g_icmp_ne d_X2_isOpen_9 (fun c9 => ?_) (fun c9 => ?_)
  · refine g_iconst d_X2_isOpen_16 ik_0 ?_
    refine h_zret d_X2_isOpen_17 rfl rfl ?_
    exact pF (by simp [b2i, *]) rfl
  · refine g_iconst d_X2_isOpen_12 ik_1 ?_
    refine g_goto d_X2_isOpen_13 ?_
    refine h_zret d_X2_isOpen_17 rfl rfl ?_
    exact pF (by simp [b2i, *]) rfl
theorem m_turn {o : Nat} {h g : Hv} (ho : isHall o) {m : Int32} : MtF M_X2_turn 0 [.ref o, .int m] (pu h o g) (none) (pu h o (hset g 0 4 (g 0 4 ^^^ 1 <<< (m &&& 31)))) := by
  refine MtF.of [some (.ref o), some (.int m)] pl_X2 rfl rfl ?_
  refine g_aload_n d_X2_turn_0 rfl ?_
  refine g_dup d_X2_turn_1 rfl ?_
  refine hh_getI d_X2_turn_2 fl_2_58 ho (by decide) ?_
  refine g_iconst d_X2_turn_5 ik_1 ?_
  refine g_iload_n d_X2_turn_6 rfl ?_
  refine g_ishl d_X2_turn_7 ?_
  refine g_ixor d_X2_turn_8 ?_
  refine hh_putI d_X2_turn_9 fl_2_58 ho (by decide) ?_
  refine h_vret d_X2_turn_12 rfl ?_
  exact ⟨rfl, rfl⟩
theorem m_dirty {o : Nat} {h g : Hv} (ho : isHall o) {x : Int32} {l : Nat} (ex : x = nI l) (hl : l < 6) {z : Int32} : MtF M_X2_dirty 0 [.ref o, .int x, .int z] (pu h o g) (none) (pu h o (dirtS g l z)) := by
  subst ex
  refine MtF.of [some (.ref o), some (.int (nI l)), some (.int z)] pl_X2 rfl rfl ?_
  refine g_aload_n d_X2_dirty_0 rfl ?_
  refine h_getR d_X2_dirty_1 fl_2_30 (sp_hall ho) rfl ?_
  refine g_iload_n d_X2_dirty_4 rfl ?_
  refine g_iload_n d_X2_dirty_5 rfl ?_
  refine hh_astE (k := l) d_X2_dirty_6 (sp_h7 ho) (by decide) rfl (by omega) (by decide) ?_
  refine g_aload_n d_X2_dirty_7 rfl ?_
  refine h_getR d_X2_dirty_8 fl_2_36 (sp_hall ho) rfl ?_
  refine g_iload_n d_X2_dirty_11 rfl ?_
  refine g_iconst d_X2_dirty_12 ik_0 ?_
  refine hh_astE (k := l) d_X2_dirty_13 (sp_h9 ho) (by decide) rfl (by omega) (by decide) ?_
  refine g_aload_n d_X2_dirty_14 rfl ?_
  refine h_getR d_X2_dirty_15 fl_2_39 (sp_hall ho) rfl ?_
  refine g_iload_n d_X2_dirty_18 rfl ?_
  refine g_iconst d_X2_dirty_19 ik_0 ?_
  refine hh_astE (k := l) d_X2_dirty_20 (sp_h10 ho) (by decide) rfl (by omega) (by decide) ?_
  refine h_vret d_X2_dirty_21 rfl ?_
  exact ⟨rfl, rfl⟩
theorem m_alter {o : Nat} {h g : Hv} (ho : isHall o) {m : Int32} {k : Nat} (em : m = nI k) (hk : k < 5) {w v : Int32} : MtF M_X2_alter 0 [.ref o, .int m, .int w, .int v] (pu h o g) (none) (pu h o (if w = 0 then hset g 1 k v else if w = 1 then hset g 2 k v else hset g 3 k v)) := by
  subst em
  refine MtF.of [some (.ref o), some (.int (nI k)), some (.int w), some (.int v)] pl_X2 rfl rfl ?_
  refine g_iload_n d_X2_alter_0 rfl ?_
  refine sw_X2_alter_1 (fun e0 => ?_) (fun e1 => ?_) (fun q0 q1 => ?_)
  · refine g_aload_n d_X2_alter_28 rfl ?_
    refine h_getR d_X2_alter_29 fl_2_9 (sp_hall ho) rfl ?_
    refine g_iload_n d_X2_alter_32 rfl ?_
    refine g_iload_n d_X2_alter_33 rfl ?_
    refine hh_astE (k := k) d_X2_alter_34 (sp_h1 ho) (by decide) rfl (by omega) (by decide) ?_
    refine g_goto d_X2_alter_35 ?_
    refine h_vret d_X2_alter_55 rfl ?_
    exact pF rfl (by simp [*])
  · refine g_aload_n d_X2_alter_38 rfl ?_
    refine h_getR d_X2_alter_39 fl_2_15 (sp_hall ho) rfl ?_
    refine g_iload_n d_X2_alter_42 rfl ?_
    refine g_iload_n d_X2_alter_43 rfl ?_
    refine hh_astE (k := k) d_X2_alter_44 (sp_h2 ho) (by decide) rfl (by omega) (by decide) ?_
    refine g_goto d_X2_alter_45 ?_
    refine h_vret d_X2_alter_55 rfl ?_
    exact pF rfl (by simp [*])
  · refine g_aload_n d_X2_alter_48 rfl ?_
    refine h_getR d_X2_alter_49 fl_2_18 (sp_hall ho) rfl ?_
    refine g_iload_n d_X2_alter_52 rfl ?_
    refine g_iload_n d_X2_alter_53 rfl ?_
    refine hh_astE (k := k) d_X2_alter_54 (sp_h3 ho) (by decide) rfl (by omega) (by decide) ?_
    refine h_vret d_X2_alter_55 rfl ?_
    exact pF rfl (by simp [*])
theorem m_washes {o : Nat} {h g : Hv} (ho : isHall o) {m : Int32} {k : Nat} (em : m = nI k) (hk : k < 5) : MtF M_X2_washes 0 [.ref o, .int m] (pu h o g) (some (.int (b2i (g 1 k ≤ 3)))) (pu h o g) := by
  subst em
  refine MtF.of [some (.ref o), some (.int (nI k))] pl_X2 rfl rfl ?_
  refine g_aload_n d_X2_washes_0 rfl ?_
  refine h_getR d_X2_washes_1 fl_2_9 (sp_hall ho) rfl ?_
  refine g_iload_n d_X2_washes_4 rfl ?_
  refine hh_aldE (k := k) d_X2_washes_5 (sp_h1 ho) (by decide) rfl (by omega) (by decide) ?_
  refine g_iconst d_X2_washes_6 ik_3 ?_
  refine g_icmp_gt d_X2_washes_7 (fun c7 => ?_) (fun c7 => ?_)
  · refine g_iconst d_X2_washes_14 ik_0 ?_
    refine h_zret d_X2_washes_15 rfl rfl ?_
    exact pF (by simp [b2i, *]) rfl
  · refine g_iconst d_X2_washes_10 ik_1 ?_
    refine g_goto d_X2_washes_11 ?_
    refine h_zret d_X2_washes_15 rfl rfl ?_
    exact pF (by simp [b2i, *]) rfl
theorem m_lastsWith {o : Nat} {h g : Hv} (ho : isHall o) {m : Int32} {k : Nat} (em : m = nI k) (hk : k < 5) {x : Int32} {l : Nat} (ex : x = nI l) (hl : l < 6) : MtF M_X2_lastsWith 1 [.ref o, .int m, .int x] (pu h o g) (some (.int (lastsS g k l))) (pu h o g) := by
  subst em
  subst ex
  refine MtF.of [some (.ref o), some (.int (nI k)), some (.int (nI l)), none, none] pl_X2 rfl rfl ?_
  refine g_aload_n d_X2_lastsWith_0 rfl ?_
  refine h_getR d_X2_lastsWith_1 fl_2_30 (sp_hall ho) rfl ?_
  refine g_iload_n d_X2_lastsWith_4 rfl ?_
  refine hh_aldE (k := l) d_X2_lastsWith_5 (sp_h7 ho) (by decide) rfl (by omega) (by decide) ?_
  refine g_aload_n d_X2_lastsWith_6 rfl ?_
  refine h_getR d_X2_lastsWith_7 fl_2_18 (sp_hall ho) rfl ?_
  refine g_iload_n d_X2_lastsWith_10 rfl ?_
  refine hh_aldE (k := k) d_X2_lastsWith_11 (sp_h3 ho) (by decide) rfl (by omega) (by decide) ?_
  refine g_iadd d_X2_lastsWith_12 ?_
  refine w_istore_n (L' := [_, _, _, _, _]) d_X2_lastsWith_13 rfl rfl rfl ?_
  refine g_aload_n d_X2_lastsWith_14 rfl ?_
  refine h_getR d_X2_lastsWith_15 fl_2_30 (sp_hall ho) rfl ?_
  refine g_iload_n d_X2_lastsWith_18 rfl ?_
  refine hh_aldE (k := l) d_X2_lastsWith_19 (sp_h7 ho) (by decide) rfl (by omega) (by decide) ?_
  refine g_iconst d_X2_lastsWith_20 ik_2 ?_
  refine g_idiv d_X2_lastsWith_21 (by decide) ?_
  refine g_aload_n d_X2_lastsWith_22 rfl ?_
  refine h_getR d_X2_lastsWith_23 fl_2_18 (sp_hall ho) rfl ?_
  refine g_iload_n d_X2_lastsWith_26 rfl ?_
  refine hh_aldE (k := k) d_X2_lastsWith_27 (sp_h3 ho) (by decide) rfl (by omega) (by decide) ?_
  refine g_iadd d_X2_lastsWith_28 ?_
  refine g_iconst d_X2_lastsWith_29 ik_1 ?_
  refine g_iadd d_X2_lastsWith_30 ?_
  refine w_istore (L' := [_, _, _, _, _]) d_X2_lastsWith_31 rfl rfl rfl ?_
  refine g_aload_n d_X2_lastsWith_33 rfl ?_
  refine h_getR d_X2_lastsWith_34 fl_2_9 (sp_hall ho) rfl ?_
  refine g_iload_n d_X2_lastsWith_37 rfl ?_
  refine hh_aldE (k := k) d_X2_lastsWith_38 (sp_h1 ho) (by decide) rfl (by omega) (by decide) ?_
  refine sw_X2_lastsWith_39 (fun e2 => ?_) (fun e3 => ?_) (fun e4 => ?_) (fun e5 => ?_) (fun q2 q3 q4 q5 => ?_)
  · refine g_iconst d_X2_lastsWith_68 ik_1 ?_
    refine g_iload_n d_X2_lastsWith_69 rfl ?_
    refine g_iconst d_X2_lastsWith_70 ik_2 ?_
    refine g_idiv d_X2_lastsWith_71 (by decide) ?_
    refine g_mmax d_X2_lastsWith_72 mx_2_71 (Nat.le_of_ble_eq_true rfl) (by decide) ?_
    refine h_iret d_X2_lastsWith_75 rfl ?_
    exact pF (by simp [lastsS, *]) rfl
  · refine g_iload_n d_X2_lastsWith_76 rfl ?_
    refine g_aload_n d_X2_lastsWith_77 rfl ?_
    refine h_getR d_X2_lastsWith_78 fl_2_27 (sp_hall ho) rfl ?_
    refine g_iload_n d_X2_lastsWith_81 rfl ?_
    refine hh_aldE (k := k) d_X2_lastsWith_82 (sp_h6 ho) (by decide) rfl (by omega) (by decide) ?_
    refine g_iconst d_X2_lastsWith_83 ik_3 ?_
    refine g_idiv d_X2_lastsWith_84 (by decide) ?_
    refine g_iadd d_X2_lastsWith_85 ?_
    refine h_iret d_X2_lastsWith_86 rfl ?_
    exact pF (by simp [lastsS, *]) rfl
  · refine g_iload d_X2_lastsWith_87 rfl ?_
    refine h_iret d_X2_lastsWith_89 rfl ?_
    exact pF (by simp [lastsS, *]) rfl
  · refine g_iconst d_X2_lastsWith_90 ik_1 ?_
    refine g_iload d_X2_lastsWith_91 rfl ?_
    refine g_iconst d_X2_lastsWith_93 ik_1 ?_
    refine g_isub d_X2_lastsWith_94 ?_
    refine g_mmax d_X2_lastsWith_95 mx_2_71 (Nat.le_of_ble_eq_true rfl) (by decide) ?_
    refine h_iret d_X2_lastsWith_98 rfl ?_
    exact pF (by simp [lastsS, *]) rfl
  · refine g_iload_n d_X2_lastsWith_99 rfl ?_
    refine h_iret d_X2_lastsWith_100 rfl ?_
    exact pF (by simp [lastsS, *]) rfl
theorem m_clear {o : Nat} {h g : Hv} (ho : isHall o) : MtF M_X2_clear 0 [.ref o] (pu h o g) (none) (pu h o (clrS g)) := by
  refine MtF.of [some (.ref o)] pl_X2 rfl rfl ?_
  refine g_aload_n d_X2_clear_0 rfl ?_
  refine g_iconst d_X2_clear_1 ik_0 ?_
  refine hh_putI d_X2_clear_2 fl_2_45 ho (by decide) ?_
  refine g_aload_n d_X2_clear_5 rfl ?_
  refine g_iconst d_X2_clear_6 ik_0 ?_
  refine hh_putI d_X2_clear_7 fl_2_49 ho (by decide) ?_
  refine g_aload_n d_X2_clear_10 rfl ?_
  refine g_iconst d_X2_clear_11 ik_0 ?_
  refine hh_putI d_X2_clear_12 fl_2_52 ho (by decide) ?_
  refine g_aload_n d_X2_clear_15 rfl ?_
  refine g_iconst d_X2_clear_16 ik_0 ?_
  refine hh_putI d_X2_clear_17 fl_2_55 ho (by decide) ?_
  refine g_aload_n d_X2_clear_20 rfl ?_
  refine g_iconst d_X2_clear_21 ik_0 ?_
  refine hh_putI d_X2_clear_22 fl_2_58 ho (by decide) ?_
  refine h_vret d_X2_clear_25 rfl ?_
  exact ⟨rfl, rfl⟩
theorem m_loadIn {o : Nat} {h g : Hv} (ho : isHall o) {m : Int32} {k : Nat} (em : m = nI k) (hk : k < 5) : MtF M_X2_loadIn 0 [.ref o, .int m] (pu h o g) (some (.int (if g 4 k = -1 then -1000000 else g 4 k))) (pu h o g) := by
  subst em
  refine MtF.of [some (.ref o), some (.int (nI k))] pl_X2 rfl rfl ?_
  refine g_aload_n d_X2_loadIn_0 rfl ?_
  refine h_getR d_X2_loadIn_1 fl_2_21 (sp_hall ho) rfl ?_
  refine g_iload_n d_X2_loadIn_4 rfl ?_
  refine hh_aldE (k := k) d_X2_loadIn_5 (sp_h4 ho) (by decide) rfl (by omega) (by decide) ?_
  refine g_iconst d_X2_loadIn_6 ik_m1 ?_
  refine g_icmp_ne d_X2_loadIn_7 (fun c7 => ?_) (fun c7 => ?_)
  · refine g_aload_n d_X2_loadIn_15 rfl ?_
    refine h_getR d_X2_loadIn_16 fl_2_21 (sp_hall ho) rfl ?_
    refine g_iload_n d_X2_loadIn_19 rfl ?_
    refine hh_aldE (k := k) d_X2_loadIn_20 (sp_h4 ho) (by decide) rfl (by omega) (by decide) ?_
    refine h_iret d_X2_loadIn_21 rfl ?_
    exact pF (by simp [*]) rfl
  · refine g_ldc d_X2_loadIn_10 kc_X2_113 ?_
    refine g_goto d_X2_loadIn_12 ?_
    refine h_iret d_X2_loadIn_21 rfl ?_
    exact pF (by simp [*]) rfl
theorem m_lateOf {o : Nat} {h g : Hv} (ho : isHall o) {x : Int32} {l : Nat} (ex : x = nI l) (hl : l < 6) : MtF M_X2_lateOf 1 [.ref o, .int x] (pu h o g) (some (.int (lateS g l))) (pu h o g) := by
  subst ex
  refine MtF.of [some (.ref o), some (.int (nI l)), none] pl_X2 rfl rfl ?_
  refine g_aload_n d_X2_lateOf_0 rfl ?_
  refine h_getR d_X2_lateOf_1 fl_2_36 (sp_hall ho) rfl ?_
  refine g_iload_n d_X2_lateOf_4 rfl ?_
  refine hh_aldE (k := l) d_X2_lateOf_5 (sp_h9 ho) (by decide) rfl (by omega) (by decide) ?_
  refine g_iconst d_X2_lateOf_6 ik_2 ?_
  refine g_icmp_ne d_X2_lateOf_7 (fun c7 => ?_) (fun c7 => ?_)
  · refine g_aload_n d_X2_lateOf_19 rfl ?_
    refine hh_getI d_X2_lateOf_20 fl_2_49 ho (by decide) ?_
    refine w_istore_n (L' := [_, _, _]) d_X2_lateOf_23 rfl rfl rfl ?_
    refine g_iconst d_X2_lateOf_24 ik_0 ?_
    refine g_iload_n d_X2_lateOf_25 rfl ?_
    refine g_aload_n d_X2_lateOf_26 rfl ?_
    refine h_getR d_X2_lateOf_27 fl_2_33 (sp_hall ho) rfl ?_
    refine g_iload_n d_X2_lateOf_30 rfl ?_
    refine hh_aldE (k := l) d_X2_lateOf_31 (sp_h8 ho) (by decide) rfl (by omega) (by decide) ?_
    refine g_isub d_X2_lateOf_32 ?_
    refine g_mmax d_X2_lateOf_33 mx_2_71 (Nat.le_of_ble_eq_true rfl) (by decide) ?_
    refine h_iret d_X2_lateOf_36 rfl ?_
    exact pF (by simp [lateS, *]) rfl
  · refine g_aload_n d_X2_lateOf_10 rfl ?_
    refine h_getR d_X2_lateOf_11 fl_2_39 (sp_hall ho) rfl ?_
    refine g_iload_n d_X2_lateOf_14 rfl ?_
    refine hh_aldE (k := l) d_X2_lateOf_15 (sp_h10 ho) (by decide) rfl (by omega) (by decide) ?_
    refine g_goto d_X2_lateOf_16 ?_
    refine w_istore_n (L' := [_, _, _]) d_X2_lateOf_23 rfl rfl rfl ?_
    refine g_iconst d_X2_lateOf_24 ik_0 ?_
    refine g_iload_n d_X2_lateOf_25 rfl ?_
    refine g_aload_n d_X2_lateOf_26 rfl ?_
    refine h_getR d_X2_lateOf_27 fl_2_33 (sp_hall ho) rfl ?_
    refine g_iload_n d_X2_lateOf_30 rfl ?_
    refine hh_aldE (k := l) d_X2_lateOf_31 (sp_h8 ho) (by decide) rfl (by omega) (by decide) ?_
    refine g_isub d_X2_lateOf_32 ?_
    refine g_mmax d_X2_lateOf_33 mx_2_71 (Nat.le_of_ble_eq_true rfl) (by decide) ?_
    refine h_iret d_X2_lateOf_36 rfl ?_
    exact pF (by simp [lateS, *]) rfl
theorem m_isWashed {o : Nat} {h g : Hv} (ho : isHall o) {x : Int32} {l : Nat} (ex : x = nI l) (hl : l < 6) (hw : 10 ≤ g 9 l → ∃ q, q < 5 ∧ g 9 l = nI (10 + q)) : MtF M_X2_isWashed 1 [.ref o, .int x] (pu h o g) (some (.int (b2i (if 10 ≤ g 9 l then ¬ g 1 (g 9 l - 10).toNatClampNeg ≤ 3 else ¬ g 9 l = 0)))) (pu h o g) := by
  subst ex
  refine MtF.of [some (.ref o), some (.int (nI l))] pl_X2 rfl rfl ?_
  refine g_aload_n d_X2_isWashed_0 rfl ?_
  refine h_getR d_X2_isWashed_1 fl_2_36 (sp_hall ho) rfl ?_
  refine g_iload_n d_X2_isWashed_4 rfl ?_
  refine hh_aldE (k := l) d_X2_isWashed_5 (sp_h9 ho) (by decide) rfl (by omega) (by decide) ?_
  refine g_bipush d_X2_isWashed_6 bk_10 ?_
  refine g_icmp_lt d_X2_isWashed_8 (fun c8 => ?_) (fun c8 => ?_)
  · refine g_aload_n d_X2_isWashed_35 rfl ?_
    refine h_getR d_X2_isWashed_36 fl_2_36 (sp_hall ho) rfl ?_
    refine g_iload_n d_X2_isWashed_39 rfl ?_
    refine hh_aldE (k := l) d_X2_isWashed_40 (sp_h9 ho) (by decide) rfl (by omega) (by decide) ?_
    refine g_if_eq d_X2_isWashed_41 (fun c41 => ?_) (fun c41 => ?_)
    · refine g_iconst d_X2_isWashed_48 ik_0 ?_
      refine h_zret d_X2_isWashed_49 rfl rfl ?_
      refine pF ?_ rfl
      first | (rw [b2i_congr (show (if 10 ≤ g 9 l then ¬ g 1 (g 9 l - 10).toNatClampNeg ≤ 3 else ¬ g 9 l = 0) ↔ ¬ g 9 l = 0 by rw [if_neg (Int32.not_le.mpr c8)])]; simp [b2i, c41]; done) | (rw [b2i_congr (show (if 10 ≤ g 9 l then ¬ g 1 (g 9 l - 10).toNatClampNeg ≤ 3 else ¬ g 9 l = 0) ↔ ¬ g 1 q ≤ 3 by rw [if_pos (Int32.not_lt.mp c8), eq3])]; first | (rw [b2i_t (b2i_eq0.mp c24)]; done) | (rw [b2i_f (fun z => z (b2i_ne0.mp c24))]; done))
    · refine g_iconst d_X2_isWashed_44 ik_1 ?_
      refine g_goto d_X2_isWashed_45 ?_
      refine h_zret d_X2_isWashed_49 rfl rfl ?_
      refine pF ?_ rfl
      first | (rw [b2i_congr (show (if 10 ≤ g 9 l then ¬ g 1 (g 9 l - 10).toNatClampNeg ≤ 3 else ¬ g 9 l = 0) ↔ ¬ g 9 l = 0 by rw [if_neg (Int32.not_le.mpr c8)])]; simp [b2i, c41]; done) | (rw [b2i_congr (show (if 10 ≤ g 9 l then ¬ g 1 (g 9 l - 10).toNatClampNeg ≤ 3 else ¬ g 9 l = 0) ↔ ¬ g 1 q ≤ 3 by rw [if_pos (Int32.not_lt.mp c8), eq3])]; first | (rw [b2i_t (b2i_eq0.mp c24)]; done) | (rw [b2i_f (fun z => z (b2i_ne0.mp c24))]; done))
  · obtain ⟨q, hq, eq⟩ := hw (Int32.not_lt.mp c8)
    have eq2 : g 9 l - 10 = nI q := by rw [eq, show (10 : Int32) = nI 10 from rfl, pk_sub (by omega)]; congr 1; omega
    have eq3 : (g 9 l - 10).toNatClampNeg = q := by rw [eq2]; exact nI_clamp (by omega)
    refine g_aload_n d_X2_isWashed_11 rfl ?_
    refine g_aload_n d_X2_isWashed_12 rfl ?_
    refine h_getR d_X2_isWashed_13 fl_2_36 (sp_hall ho) rfl ?_
    refine g_iload_n d_X2_isWashed_16 rfl ?_
    refine hh_aldE (k := l) d_X2_isWashed_17 (sp_h9 ho) (by decide) rfl (by omega) (by decide) ?_
    refine g_bipush d_X2_isWashed_18 bk_10 ?_
    refine g_isub d_X2_isWashed_20 ?_
    refine h_V1i d_X2_isWashed_21 cl_2_104 (m_washes ho eq2 hq) (sp_hall ho) (by decide) rfl (Nat.le_of_ble_eq_true rfl) (by decide) ?_
    refine g_if_ne d_X2_isWashed_24 (fun c24 => ?_) (fun c24 => ?_)
    · refine g_iconst d_X2_isWashed_31 ik_0 ?_
      refine g_goto d_X2_isWashed_32 ?_
      refine h_zret d_X2_isWashed_49 rfl rfl ?_
      refine pF ?_ rfl
      first | (rw [b2i_congr (show (if 10 ≤ g 9 l then ¬ g 1 (g 9 l - 10).toNatClampNeg ≤ 3 else ¬ g 9 l = 0) ↔ ¬ g 9 l = 0 by rw [if_neg (Int32.not_le.mpr c8)])]; simp [b2i, c41]; done) | (rw [b2i_congr (show (if 10 ≤ g 9 l then ¬ g 1 (g 9 l - 10).toNatClampNeg ≤ 3 else ¬ g 9 l = 0) ↔ ¬ g 1 q ≤ 3 by rw [if_pos (Int32.not_lt.mp c8), eq3])]; first | (rw [b2i_t (b2i_eq0.mp c24)]; done) | (rw [b2i_f (fun z => z (b2i_ne0.mp c24))]; done))
    · refine g_iconst d_X2_isWashed_27 ik_1 ?_
      refine g_goto d_X2_isWashed_28 ?_
      refine h_zret d_X2_isWashed_49 rfl rfl ?_
      refine pF ?_ rfl
      first | (rw [b2i_congr (show (if 10 ≤ g 9 l then ¬ g 1 (g 9 l - 10).toNatClampNeg ≤ 3 else ¬ g 9 l = 0) ↔ ¬ g 9 l = 0 by rw [if_neg (Int32.not_le.mpr c8)])]; simp [b2i, c41]; done) | (rw [b2i_congr (show (if 10 ≤ g 9 l then ¬ g 1 (g 9 l - 10).toNatClampNeg ≤ 3 else ¬ g 9 l = 0) ↔ ¬ g 1 q ≤ 3 by rw [if_pos (Int32.not_lt.mp c8), eq3])]; first | (rw [b2i_t (b2i_eq0.mp c24)]; done) | (rw [b2i_f (fun z => z (b2i_ne0.mp c24))]; done))
theorem m_takeOut {o : Nat} {h g : Hv} (ho : isHall o) {m : Int32} {k : Nat} (em : m = nI k) (hk : k < 5) {l : Nat} (hl : g 4 k = nI l) (hl6 : l < 6) : MtF M_X2_takeOut 1 [.ref o, .int m] (pu h o g) (none) (pu h o (outS g k l)) := by
  subst em
  refine MtF.of [some (.ref o), some (.int (nI k)), none] pl_X2 rfl rfl ?_
  refine g_aload_n d_X2_takeOut_0 rfl ?_
  refine h_getR d_X2_takeOut_1 fl_2_21 (sp_hall ho) rfl ?_
  refine g_iload_n d_X2_takeOut_4 rfl ?_
  refine hh_aldV (k := k) (v := nI l) d_X2_takeOut_5 (sp_h4 ho) (by decide) rfl (by omega) (by decide) (hl) ?_
  refine w_istore_n (L' := [_, _, _]) d_X2_takeOut_6 rfl rfl rfl ?_
  refine g_aload_n d_X2_takeOut_7 rfl ?_
  refine g_iload_n d_X2_takeOut_8 rfl ?_
  refine h_V1i d_X2_takeOut_9 cl_2_104 (m_washes ho rfl hk) (sp_hall ho) (by decide) rfl (Nat.le_of_ble_eq_true rfl) (by decide) ?_
  refine g_if_eq d_X2_takeOut_12 (fun c12 => ?_) (fun c12 => ?_)
  · refine g_aload_n d_X2_takeOut_25 rfl ?_
    refine h_getR d_X2_takeOut_26 fl_2_36 (sp_hall ho) rfl ?_
    refine g_iload_n d_X2_takeOut_29 rfl ?_
    refine g_iconst d_X2_takeOut_30 ik_2 ?_
    refine hh_astE (k := l) d_X2_takeOut_31 (sp_h9 ho) (by decide) rfl (by omega) (by decide) ?_
    refine g_aload_n d_X2_takeOut_32 rfl ?_
    refine h_getR d_X2_takeOut_33 fl_2_39 (sp_hall ho) rfl ?_
    refine g_iload_n d_X2_takeOut_36 rfl ?_
    refine g_aload_n d_X2_takeOut_37 rfl ?_
    refine hh_getI d_X2_takeOut_38 fl_2_49 ho (by decide) ?_
    refine hh_astE (k := l) d_X2_takeOut_41 (sp_h10 ho) (by decide) rfl (by omega) (by decide) ?_
    refine g_aload_n d_X2_takeOut_42 rfl ?_
    refine h_getR d_X2_takeOut_43 fl_2_21 (sp_hall ho) rfl ?_
    refine g_iload_n d_X2_takeOut_46 rfl ?_
    refine g_iconst d_X2_takeOut_47 ik_m1 ?_
    refine hh_astE (k := k) d_X2_takeOut_48 (sp_h4 ho) (by decide) rfl (by omega) (by decide) ?_
    refine g_aload_n d_X2_takeOut_49 rfl ?_
    refine h_getR d_X2_takeOut_50 fl_2_24 (sp_hall ho) rfl ?_
    refine g_iload_n d_X2_takeOut_53 rfl ?_
    refine g_iconst d_X2_takeOut_54 ik_0 ?_
    refine hh_astE (k := k) d_X2_takeOut_55 (sp_h5 ho) (by decide) rfl (by omega) (by decide) ?_
    refine g_aload_n d_X2_takeOut_56 rfl ?_
    refine h_getR d_X2_takeOut_57 fl_2_27 (sp_hall ho) rfl ?_
    refine g_iload_n d_X2_takeOut_60 rfl ?_
    refine g_sipush d_X2_takeOut_61 sk_999 ?_
    refine g_aload_n d_X2_takeOut_64 rfl ?_
    refine h_getR d_X2_takeOut_65 fl_2_27 (sp_hall ho) rfl ?_
    refine g_iload_n d_X2_takeOut_68 rfl ?_
    refine hh_aldE (k := k) d_X2_takeOut_69 (sp_h6 ho) (by decide) rfl (by omega) (by decide) ?_
    refine g_iconst d_X2_takeOut_70 ik_1 ?_
    refine g_iadd d_X2_takeOut_71 ?_
    refine g_mmin d_X2_takeOut_72 mx_2_101 (Nat.le_of_ble_eq_true rfl) (by decide) ?_
    refine hh_astE (k := k) d_X2_takeOut_75 (sp_h6 ho) (by decide) rfl (by omega) (by decide) ?_
    refine h_vret d_X2_takeOut_76 rfl ?_
    refine pF rfl ?_
    first | (rw [outS, if_pos (b2i_ne0.mp c12)]; simp [hs_j]; done) | (rw [outS, if_neg (b2i_eq0.mp c12)]; simp [hs_j]; done)
  · refine g_aload_n d_X2_takeOut_15 rfl ?_
    refine h_getR d_X2_takeOut_16 fl_2_36 (sp_hall ho) rfl ?_
    refine g_iload_n d_X2_takeOut_19 rfl ?_
    refine g_iconst d_X2_takeOut_20 ik_1 ?_
    refine hh_astE (k := l) d_X2_takeOut_21 (sp_h9 ho) (by decide) rfl (by omega) (by decide) ?_
    refine g_goto d_X2_takeOut_22 ?_
    refine g_aload_n d_X2_takeOut_42 rfl ?_
    refine h_getR d_X2_takeOut_43 fl_2_21 (sp_hall ho) rfl ?_
    refine g_iload_n d_X2_takeOut_46 rfl ?_
    refine g_iconst d_X2_takeOut_47 ik_m1 ?_
    refine hh_astE (k := k) d_X2_takeOut_48 (sp_h4 ho) (by decide) rfl (by omega) (by decide) ?_
    refine g_aload_n d_X2_takeOut_49 rfl ?_
    refine h_getR d_X2_takeOut_50 fl_2_24 (sp_hall ho) rfl ?_
    refine g_iload_n d_X2_takeOut_53 rfl ?_
    refine g_iconst d_X2_takeOut_54 ik_0 ?_
    refine hh_astE (k := k) d_X2_takeOut_55 (sp_h5 ho) (by decide) rfl (by omega) (by decide) ?_
    refine g_aload_n d_X2_takeOut_56 rfl ?_
    refine h_getR d_X2_takeOut_57 fl_2_27 (sp_hall ho) rfl ?_
    refine g_iload_n d_X2_takeOut_60 rfl ?_
    refine g_sipush d_X2_takeOut_61 sk_999 ?_
    refine g_aload_n d_X2_takeOut_64 rfl ?_
    refine h_getR d_X2_takeOut_65 fl_2_27 (sp_hall ho) rfl ?_
    refine g_iload_n d_X2_takeOut_68 rfl ?_
    refine hh_aldE (k := k) d_X2_takeOut_69 (sp_h6 ho) (by decide) rfl (by omega) (by decide) ?_
    refine g_iconst d_X2_takeOut_70 ik_1 ?_
    refine g_iadd d_X2_takeOut_71 ?_
    refine g_mmin d_X2_takeOut_72 mx_2_101 (Nat.le_of_ble_eq_true rfl) (by decide) ?_
    refine hh_astE (k := k) d_X2_takeOut_75 (sp_h6 ho) (by decide) rfl (by omega) (by decide) ?_
    refine h_vret d_X2_takeOut_76 rfl ?_
    refine pF rfl ?_
    first | (rw [outS, if_pos (b2i_ne0.mp c12)]; simp [hs_j]; done) | (rw [outS, if_neg (b2i_eq0.mp c12)]; simp [hs_j]; done)
theorem m_putIn {o : Nat} {h g : Hv} (ho : isHall o) {m : Int32} {k : Nat} (em : m = nI k) (hk : k < 5) {x : Int32} {l : Nat} (ex : x = nI l) (hl : l < 6) : MtF M_X2_putIn 2 [.ref o, .int m, .int x] (pu h o g) (none) (pu h o (putS g k l)) := by
  subst em
  subst ex
  refine MtF.of [some (.ref o), some (.int (nI k)), some (.int (nI l))] pl_X2 rfl rfl ?_
  refine g_aload_n d_X2_putIn_0 rfl ?_
  refine h_getR d_X2_putIn_1 fl_2_21 (sp_hall ho) rfl ?_
  refine g_iload_n d_X2_putIn_4 rfl ?_
  refine g_iload_n d_X2_putIn_5 rfl ?_
  refine hh_astE (k := k) d_X2_putIn_6 (sp_h4 ho) (by decide) rfl (by omega) (by decide) ?_
  refine g_aload_n d_X2_putIn_7 rfl ?_
  refine h_getR d_X2_putIn_8 fl_2_36 (sp_hall ho) rfl ?_
  refine g_iload_n d_X2_putIn_11 rfl ?_
  refine g_bipush d_X2_putIn_12 bk_10 ?_
  refine g_iload_n d_X2_putIn_14 rfl ?_
  refine g_iadd d_X2_putIn_15 ?_
  refine hh_astE (k := l) d_X2_putIn_16 (sp_h9 ho) (by decide) rfl (by omega) (by decide) ?_
  refine g_aload_n d_X2_putIn_17 rfl ?_
  refine h_getR d_X2_putIn_18 fl_2_24 (sp_hall ho) rfl ?_
  refine g_iload_n d_X2_putIn_21 rfl ?_
  refine g_aload_n d_X2_putIn_22 rfl ?_
  refine g_iload_n d_X2_putIn_23 rfl ?_
  refine g_iload_n d_X2_putIn_24 rfl ?_
  refine h_V2i d_X2_putIn_25 cl_2_107 (m_lastsWith ho rfl hk rfl hl) (sp_hall ho) (by decide) rfl (Nat.le_of_ble_eq_true rfl) (by decide) ?_
  refine hh_astE (k := k) d_X2_putIn_28 (sp_h5 ho) (by decide) rfl (by omega) (by decide) ?_
  refine h_vret d_X2_putIn_29 rfl ?_
  exact pF rfl (by simp [putS, lastsS, hs_j])
theorem m_addMachine {o : Nat} {h g : Hv} (ho : isHall o) {n : Nat} (hM : g 0 2 = nI n) (hn : n < 5) {a b c : Int32} : MtF M_X2_addMachine 0 [.ref o, .int a, .int b, .int c] (pu h o g) (none) (pu h o (addM g n a b c)) := by
  refine MtF.of [some (.ref o), some (.int a), some (.int b), some (.int c)] pl_X2 rfl rfl ?_
  refine g_aload_n d_X2_addMachine_0 rfl ?_
  refine hh_getV (v := nI n) d_X2_addMachine_1 fl_2_52 ho (by decide) (by simp [hs_j, hM]) ?_
  refine g_iconst d_X2_addMachine_4 ik_5 ?_
  refine g_icmp_lt d_X2_addMachine_5 (fun c5 => ?_) (fun c5 => absurd (nI_lt hn (by decide)) c5)
  refine g_aload_n d_X2_addMachine_9 rfl ?_
  refine h_getR d_X2_addMachine_10 fl_2_9 (sp_hall ho) rfl ?_
  refine g_aload_n d_X2_addMachine_13 rfl ?_
  refine hh_getV (v := nI n) d_X2_addMachine_14 fl_2_52 ho (by decide) (by simp [hs_j, hM]) ?_
  refine g_iload_n d_X2_addMachine_17 rfl ?_
  refine hh_astE (k := n) d_X2_addMachine_18 (sp_h1 ho) (by decide) rfl (by omega) (by decide) ?_
  refine g_aload_n d_X2_addMachine_19 rfl ?_
  refine h_getR d_X2_addMachine_20 fl_2_15 (sp_hall ho) rfl ?_
  refine g_aload_n d_X2_addMachine_23 rfl ?_
  refine hh_getV (v := nI n) d_X2_addMachine_24 fl_2_52 ho (by decide) (by simp [hs_j, hM]) ?_
  refine g_iload_n d_X2_addMachine_27 rfl ?_
  refine hh_astE (k := n) d_X2_addMachine_28 (sp_h2 ho) (by decide) rfl (by omega) (by decide) ?_
  refine g_aload_n d_X2_addMachine_29 rfl ?_
  refine h_getR d_X2_addMachine_30 fl_2_18 (sp_hall ho) rfl ?_
  refine g_aload_n d_X2_addMachine_33 rfl ?_
  refine hh_getV (v := nI n) d_X2_addMachine_34 fl_2_52 ho (by decide) (by simp [hs_j, hM]) ?_
  refine g_iload_n d_X2_addMachine_37 rfl ?_
  refine hh_astE (k := n) d_X2_addMachine_38 (sp_h3 ho) (by decide) rfl (by omega) (by decide) ?_
  refine g_aload_n d_X2_addMachine_39 rfl ?_
  refine h_getR d_X2_addMachine_40 fl_2_21 (sp_hall ho) rfl ?_
  refine g_aload_n d_X2_addMachine_43 rfl ?_
  refine hh_getV (v := nI n) d_X2_addMachine_44 fl_2_52 ho (by decide) (by simp [hs_j, hM]) ?_
  refine g_iconst d_X2_addMachine_47 ik_m1 ?_
  refine hh_astE (k := n) d_X2_addMachine_48 (sp_h4 ho) (by decide) rfl (by omega) (by decide) ?_
  refine g_aload_n d_X2_addMachine_49 rfl ?_
  refine h_getR d_X2_addMachine_50 fl_2_24 (sp_hall ho) rfl ?_
  refine g_aload_n d_X2_addMachine_53 rfl ?_
  refine hh_getV (v := nI n) d_X2_addMachine_54 fl_2_52 ho (by decide) (by simp [hs_j, hM]) ?_
  refine g_iconst d_X2_addMachine_57 ik_0 ?_
  refine hh_astE (k := n) d_X2_addMachine_58 (sp_h5 ho) (by decide) rfl (by omega) (by decide) ?_
  refine g_aload_n d_X2_addMachine_59 rfl ?_
  refine h_getR d_X2_addMachine_60 fl_2_27 (sp_hall ho) rfl ?_
  refine g_aload_n d_X2_addMachine_63 rfl ?_
  refine hh_getV (v := nI n) d_X2_addMachine_64 fl_2_52 ho (by decide) (by simp [hs_j, hM]) ?_
  refine g_iconst d_X2_addMachine_67 ik_0 ?_
  refine hh_astE (k := n) d_X2_addMachine_68 (sp_h6 ho) (by decide) rfl (by omega) (by decide) ?_
  refine g_aload_n d_X2_addMachine_69 rfl ?_
  refine g_dup d_X2_addMachine_70 rfl ?_
  refine hh_getI d_X2_addMachine_71 fl_2_58 ho (by decide) ?_
  refine g_iconst d_X2_addMachine_74 ik_1 ?_
  refine g_aload_n d_X2_addMachine_75 rfl ?_
  refine hh_getV (v := nI n) d_X2_addMachine_76 fl_2_52 ho (by decide) (by simp [hs_j, hM]) ?_
  refine g_ishl d_X2_addMachine_79 ?_
  refine g_ior d_X2_addMachine_80 ?_
  refine hh_putI d_X2_addMachine_81 fl_2_58 ho (by decide) ?_
  refine g_aload_n d_X2_addMachine_84 rfl ?_
  refine g_dup d_X2_addMachine_85 rfl ?_
  refine hh_getV (v := nI n) d_X2_addMachine_86 fl_2_52 ho (by decide) (by simp [hs_j, hs_b, hM]) ?_
  refine g_iconst d_X2_addMachine_89 ik_1 ?_
  refine g_iadd d_X2_addMachine_90 ?_
  refine hh_putI d_X2_addMachine_91 fl_2_52 ho (by decide) ?_
  refine h_vret d_X2_addMachine_94 rfl ?_
  exact pF rfl (by simp [addM, hs_j, nI_succ])

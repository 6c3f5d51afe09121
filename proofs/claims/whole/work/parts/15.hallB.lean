/-! loops of the hall -/
def oI (x : Option Nat) : Int32 := match x with
  | none => -1
  | some l => nI l
def waitF (g : Hv) (w rm : Int32) : Nat → Nat → Option Nat
  | 0, _ => none
  | n + 1, j => if g 9 (g 11 j).toNatClampNeg = w ∧ ¬ rm < g 7 (g 11 j).toNatClampNeg then some (g 11 j).toNatClampNeg else waitF g w rm n (j + 1)
def wantS (g : Hv) (k : Nat) : Int32 := if g 1 k ≤ 3 then 0 else 1
def RK (g : Hv) (N : Nat) : Prop := ∀ j, j < N → ∃ l, l < 6 ∧ g 11 j = nI l
def HH (g : Hv) (M : Nat) : Prop := ∀ k, k < M → g 4 k = -1 ∨ ∃ l, l < 6 ∧ g 4 k = nI l
def tk1 (g : Hv) : Nat → Hv × Int32
  | 0 => (g, 0)
  | m + 1 => if (tk1 g m).1 4 m = -1 then tk1 g m
    else if 0 < (tk1 g m).1 5 m - 1 then (hset (tk1 g m).1 5 m ((tk1 g m).1 5 m - 1), (tk1 g m).2 + 1)
    else (outS (hset (tk1 g m).1 5 m ((tk1 g m).1 5 m - 1)) m ((tk1 g m).1 4 m).toNatClampNeg, (tk1 g m).2)
def tk2 (g : Hv) (b : Int32) (N : Nat) : Nat → Hv × Int32
  | 0 => (g, b)
  | m + 1 => if ¬ g 0 0 ≤ (tk2 g b N m).2 ∧ (tk2 g b N m).1 4 m = -1 ∧ g 0 4 >>> (nI m &&& 31) &&& 1 = 1 then
      (match waitF (tk2 g b N m).1 (wantS g m) (g 2 m) N 0 with
        | none => tk2 g b N m
        | some l => (putS (tk2 g b N m).1 m l, (tk2 g b N m).2 + 1))
    else tk2 g b N m
def tickS (g : Hv) (M N : Nat) : Hv := hset (tk2 (tk1 g M).1 (tk1 g M).2 N M).1 0 1 ((tk2 (tk1 g M).1 (tk1 g M).2 N M).1 0 1 + 1)
def whS (g : Hv) (w : Int32) : Nat → Int32
  | 0 => 0
  | n + 1 => if g 9 n = w then whS g w n ||| 1 <<< (nI n &&& 31) else whS g w n
def lateAllS (g : Hv) : Nat → Int32
  | 0 => 0
  | n + 1 => lateAllS g n + lateS g n
def doneS (g : Hv) : Nat → Int32
  | 0 => 0
  | n + 1 => doneS g n + g 6 n
def busyS (g : Hv) : Nat → Int32
  | 0 => 0
  | n + 1 => if g 4 n = -1 then busyS g n else busyS g n ||| 1 <<< (nI n &&& 31)
def sizeS (g : Hv) (b : Int32) : Nat → Int32
  | 0 => 0
  | n + 1 => sizeS g b n + (b >>> (nI n &&& 31) &&& 1) * g 7 n
def qtS (g : Hv) (q0 : Int32) : Nat → Int32
  | 0 => q0
  | m + 1 => if g 4 m = -1 then qtS g q0 m else if g 5 m - 1 < qtS g q0 m then g 5 m - 1 else qtS g q0 m
def pqS (g : Hv) (n : Int32) : Nat → Hv
  | 0 => hset g 0 1 (g 0 1 + n)
  | m + 1 => if (pqS g n m) 4 m = -1 then pqS g n m else hset (pqS g n m) 5 m ((pqS g n m) 5 m - n)
theorem lp_waitingFor {o : Nat} {h g : Hv} (ho : isHall o) {N : Nat} (hN : g 0 3 = nI N) (hN6 : N ≤ 6) (hR : RK g N) {k : Nat} {w rm r : Int32} : ∀ (n j : Nat), j + n = N → ∀ (y : Option Value), r = oI (waitF g w rm n j) → GdH M_X2_waitingFor 1 24 [some (.ref o), some (.int (nI k)), some (.int w), some (.int rm), some (.int (nI j)), y] [] (pu h o g) (fun v' h' => v' = some (.int (r)) ∧ h' = pu h o g) := by
  intro n
  induction n with
  | zero =>
    intro j hj y hr
    refine g_iload d_X2_waitingFor_24 rfl ?_
    refine g_aload_n d_X2_waitingFor_26 rfl ?_
    refine hh_getV (v := nI N) d_X2_waitingFor_27 fl_2_55 ho (by decide) (hN) ?_
    refine g_icmp_ge d_X2_waitingFor_30 (fun c30 => ?_) (fun c30 => absurd (nI_le (by omega) (by omega)) c30)
    refine g_iconst d_X2_waitingFor_73 ik_m1 ?_
    refine h_iret d_X2_waitingFor_74 rfl ?_
    exact pF (by rw [hr]; rfl) rfl
  | succ n ih =>
    intro j hj y hr
    obtain ⟨l, hl, el⟩ := hR j (by omega)
    have et : (g 11 j).toNatClampNeg = l := by rw [el]; exact nI_clamp (by omega)
    rw [waitF, et] at hr
    refine g_iload d_X2_waitingFor_24 rfl ?_
    refine g_aload_n d_X2_waitingFor_26 rfl ?_
    refine hh_getV (v := nI N) d_X2_waitingFor_27 fl_2_55 ho (by decide) (hN) ?_
    refine g_icmp_ge d_X2_waitingFor_30 (fun c30 => absurd c30 (nI_ge (by omega) (by omega))) (fun c30 => ?_)
    refine g_aload_n d_X2_waitingFor_33 rfl ?_
    refine h_getR d_X2_waitingFor_34 fl_2_42 (sp_hall ho) rfl ?_
    refine g_iload d_X2_waitingFor_37 rfl ?_
    refine hh_aldV (k := j) (v := nI l) d_X2_waitingFor_39 (sp_h11 ho) (by decide) rfl (by omega) (by decide) (el) ?_
    refine w_istore (L' := [_, _, _, _, _, _]) d_X2_waitingFor_40 rfl rfl rfl ?_
    refine g_aload_n d_X2_waitingFor_42 rfl ?_
    refine h_getR d_X2_waitingFor_43 fl_2_36 (sp_hall ho) rfl ?_
    refine g_iload d_X2_waitingFor_46 rfl ?_
    refine hh_aldE (k := l) d_X2_waitingFor_48 (sp_h9 ho) (by decide) rfl (by omega) (by decide) ?_
    refine g_iload_n d_X2_waitingFor_49 rfl ?_
    refine g_icmp_ne d_X2_waitingFor_50 (fun c50 => ?_) (fun c50 => ?_)
    · refine w_iinc (L' := [_, _, _, _, _, _]) d_X2_waitingFor_67 ik_1 rfl rfl rfl rfl ?_
      refine g_goto d_X2_waitingFor_70 ?_
      rw [nI_1]
      exact ih (j + 1) (by omega) _ (by rw [hr, if_neg (by first | exact fun q => c50 q.1 | exact fun q => q.2 c61)])
    · refine g_aload_n d_X2_waitingFor_53 rfl ?_
      refine h_getR d_X2_waitingFor_54 fl_2_30 (sp_hall ho) rfl ?_
      refine g_iload d_X2_waitingFor_57 rfl ?_
      refine hh_aldE (k := l) d_X2_waitingFor_59 (sp_h7 ho) (by decide) rfl (by omega) (by decide) ?_
      refine g_iload_n d_X2_waitingFor_60 rfl ?_
      refine g_icmp_gt d_X2_waitingFor_61 (fun c61 => ?_) (fun c61 => ?_)
      · refine w_iinc (L' := [_, _, _, _, _, _]) d_X2_waitingFor_67 ik_1 rfl rfl rfl rfl ?_
        refine g_goto d_X2_waitingFor_70 ?_
        rw [nI_1]
        exact ih (j + 1) (by omega) _ (by rw [hr, if_neg (by first | exact fun q => c50 q.1 | exact fun q => q.2 c61)])
      · refine g_iload d_X2_waitingFor_64 rfl ?_
        refine h_iret d_X2_waitingFor_66 rfl ?_
        exact pF (by rw [hr, if_pos ⟨c50, c61⟩]; rfl) rfl
theorem m_waitingFor {o : Nat} {h g : Hv} (ho : isHall o) {N : Nat} (hN : g 0 3 = nI N) (hN6 : N ≤ 6) (hR : RK g N) {m : Int32} {k : Nat} (em : m = nI k) (hk : k < 5) : MtF M_X2_waitingFor 1 [.ref o, .int m] (pu h o g) (some (.int (oI (waitF g (wantS g k) (g 2 k) N 0)))) (pu h o g) := by
  subst em
  refine MtF.of [some (.ref o), some (.int (nI k)), none, none, none, none] pl_X2 rfl rfl ?_
  refine g_aload_n d_X2_waitingFor_0 rfl ?_
  refine g_iload_n d_X2_waitingFor_1 rfl ?_
  refine h_V1i d_X2_waitingFor_2 cl_2_104 (m_washes ho rfl hk) (sp_hall ho) (by decide) rfl (Nat.le_of_ble_eq_true rfl) (by decide) ?_
  refine g_if_eq d_X2_waitingFor_5 (fun c5 => ?_) (fun c5 => ?_)
  · refine g_iconst d_X2_waitingFor_12 ik_1 ?_
    refine w_istore_n (L' := [_, _, _, _, _, _]) d_X2_waitingFor_13 rfl rfl rfl ?_
    refine g_aload_n d_X2_waitingFor_14 rfl ?_
    refine h_getR d_X2_waitingFor_15 fl_2_15 (sp_hall ho) rfl ?_
    refine g_iload_n d_X2_waitingFor_18 rfl ?_
    refine hh_aldE (k := k) d_X2_waitingFor_19 (sp_h2 ho) (by decide) rfl (by omega) (by decide) ?_
    refine w_istore_n (L' := [_, _, _, _, _, _]) d_X2_waitingFor_20 rfl rfl rfl ?_
    refine g_iconst d_X2_waitingFor_21 ik_0 ?_
    refine w_istore (L' := [_, _, _, _, _, _]) d_X2_waitingFor_22 rfl rfl rfl ?_
    exact lp_waitingFor ho hN hN6 hR N 0 (by omega) _ (by first | (rw [wantS, if_pos (b2i_ne0.mp c5)]; done) | (rw [wantS, if_neg (b2i_eq0.mp c5)]; done))
  · refine g_iconst d_X2_waitingFor_8 ik_0 ?_
    refine g_goto d_X2_waitingFor_9 ?_
    refine w_istore_n (L' := [_, _, _, _, _, _]) d_X2_waitingFor_13 rfl rfl rfl ?_
    refine g_aload_n d_X2_waitingFor_14 rfl ?_
    refine h_getR d_X2_waitingFor_15 fl_2_15 (sp_hall ho) rfl ?_
    refine g_iload_n d_X2_waitingFor_18 rfl ?_
    refine hh_aldE (k := k) d_X2_waitingFor_19 (sp_h2 ho) (by decide) rfl (by omega) (by decide) ?_
    refine w_istore_n (L' := [_, _, _, _, _, _]) d_X2_waitingFor_20 rfl rfl rfl ?_
    refine g_iconst d_X2_waitingFor_21 ik_0 ?_
    refine w_istore (L' := [_, _, _, _, _, _]) d_X2_waitingFor_22 rfl rfl rfl ?_
    exact lp_waitingFor ho hN hN6 hR N 0 (by omega) _ (by first | (rw [wantS, if_pos (b2i_ne0.mp c5)]; done) | (rw [wantS, if_neg (b2i_eq0.mp c5)]; done))
theorem lp_whichAre {o : Nat} {h g : Hv} (ho : isHall o) {N : Nat} (hN : g 0 3 = nI N) (hN6 : N ≤ 6) {w : Int32} {P : Option Value → Hv → Prop} (kx : GdH M_X2_whichAre 0 34 [some (.ref o), some (.int w), some (.int (whS g w N)), some (.int (nI N))] [] (pu h o g) P) : ∀ (n j : Nat), j + n = N → GdH M_X2_whichAre 0 4 [some (.ref o), some (.int w), some (.int (whS g w j)), some (.int (nI j))] [] (pu h o g) P := by
  intro n
  induction n with
  | zero =>
    intro j hj
    have hj' : j = N := by omega
    rw [hj']
    refine g_iload_n d_X2_whichAre_4 rfl ?_
    refine g_aload_n d_X2_whichAre_5 rfl ?_
    refine hh_getV (v := nI N) d_X2_whichAre_6 fl_2_55 ho (by decide) (hN) ?_
    refine g_icmp_ge d_X2_whichAre_9 (fun c9 => ?_) (fun c9 => absurd (nI_le (a := N) (b := N) (Nat.le_refl _) (by omega)) c9)
    exact kx
  | succ n ih =>
    intro j hj
    refine g_iload_n d_X2_whichAre_4 rfl ?_
    refine g_aload_n d_X2_whichAre_5 rfl ?_
    refine hh_getV (v := nI N) d_X2_whichAre_6 fl_2_55 ho (by decide) (hN) ?_
    refine g_icmp_ge d_X2_whichAre_9 (fun c9 => absurd c9 (nI_ge (a := j) (b := N) (by omega) (by omega))) (fun c9 => ?_)
    refine g_aload_n d_X2_whichAre_12 rfl ?_
    refine h_getR d_X2_whichAre_13 fl_2_36 (sp_hall ho) rfl ?_
    refine g_iload_n d_X2_whichAre_16 rfl ?_
    refine hh_aldE (k := j) d_X2_whichAre_17 (sp_h9 ho) (by decide) rfl (by omega) (by decide) ?_
    refine g_iload_n d_X2_whichAre_18 rfl ?_
    refine g_icmp_ne d_X2_whichAre_19 (fun c19 => ?_) (fun c19 => ?_)
    · refine w_iinc (L' := [_, _, _, _]) d_X2_whichAre_28 ik_1 rfl rfl rfl rfl ?_
      refine g_goto d_X2_whichAre_31 ?_
      have q := ih (j + 1) (by omega)
      first | rw [show whS g w (j + 1) = whS g w j from if_neg c19] at q | rw [show whS g w (j + 1) = whS g w j ||| 1 <<< (nI j &&& 31) from if_pos c19] at q
      rw [nI_1]
      exact q
    · refine g_iload_n d_X2_whichAre_22 rfl ?_
      refine g_iconst d_X2_whichAre_23 ik_1 ?_
      refine g_iload_n d_X2_whichAre_24 rfl ?_
      refine g_ishl d_X2_whichAre_25 ?_
      refine g_ior d_X2_whichAre_26 ?_
      refine w_istore_n (L' := [_, _, _, _]) d_X2_whichAre_27 rfl rfl rfl ?_
      refine w_iinc (L' := [_, _, _, _]) d_X2_whichAre_28 ik_1 rfl rfl rfl rfl ?_
      refine g_goto d_X2_whichAre_31 ?_
      have q := ih (j + 1) (by omega)
      first | rw [show whS g w (j + 1) = whS g w j from if_neg c19] at q | rw [show whS g w (j + 1) = whS g w j ||| 1 <<< (nI j &&& 31) from if_pos c19] at q
      rw [nI_1]
      exact q
theorem m_whichAre {o : Nat} {h g : Hv} (ho : isHall o) {N : Nat} (hN : g 0 3 = nI N) (hN6 : N ≤ 6) {w : Int32} : MtF M_X2_whichAre 0 [.ref o, .int w] (pu h o g) (some (.int (whS g w N))) (pu h o g) := by
  refine MtF.of [some (.ref o), some (.int w), none, none] pl_X2 rfl rfl ?_
  refine g_iconst d_X2_whichAre_0 ik_0 ?_
  refine w_istore_n (L' := [_, _, _, _]) d_X2_whichAre_1 rfl rfl rfl ?_
  refine g_iconst d_X2_whichAre_2 ik_0 ?_
  refine w_istore_n (L' := [_, _, _, _]) d_X2_whichAre_3 rfl rfl rfl ?_
  refine lp_whichAre ho hN hN6 ?_ N 0 (by omega)
  refine g_iload_n d_X2_whichAre_34 rfl ?_
  refine h_iret d_X2_whichAre_35 rfl ?_
  exact pF rfl rfl
theorem lp_lateOfAll {o : Nat} {h g : Hv} (ho : isHall o) {N : Nat} (hN : g 0 3 = nI N) (hN6 : N ≤ 6) {P : Option Value → Hv → Prop} (kx : GdH M_X2_lateOfAll 2 26 [some (.ref o), some (.int (lateAllS g N)), some (.int (nI N))] [] (pu h o g) P) : ∀ (n j : Nat), j + n = N → GdH M_X2_lateOfAll 2 4 [some (.ref o), some (.int (lateAllS g j)), some (.int (nI j))] [] (pu h o g) P := by
  intro n
  induction n with
  | zero =>
    intro j hj
    have hj' : j = N := by omega
    rw [hj']
    refine g_iload_n d_X2_lateOfAll_4 rfl ?_
    refine g_aload_n d_X2_lateOfAll_5 rfl ?_
    refine hh_getV (v := nI N) d_X2_lateOfAll_6 fl_2_55 ho (by decide) (hN) ?_
    refine g_icmp_ge d_X2_lateOfAll_9 (fun c9 => ?_) (fun c9 => absurd (nI_le (a := N) (b := N) (Nat.le_refl _) (by omega)) c9)
    exact kx
  | succ n ih =>
    intro j hj
    refine g_iload_n d_X2_lateOfAll_4 rfl ?_
    refine g_aload_n d_X2_lateOfAll_5 rfl ?_
    refine hh_getV (v := nI N) d_X2_lateOfAll_6 fl_2_55 ho (by decide) (hN) ?_
    refine g_icmp_ge d_X2_lateOfAll_9 (fun c9 => absurd c9 (nI_ge (a := j) (b := N) (by omega) (by omega))) (fun c9 => ?_)
    refine g_iload_n d_X2_lateOfAll_12 rfl ?_
    refine g_aload_n d_X2_lateOfAll_13 rfl ?_
    refine g_iload_n d_X2_lateOfAll_14 rfl ?_
    refine h_V1i d_X2_lateOfAll_15 cl_2_114 (m_lateOf ho rfl (by omega)) (sp_hall ho) (by decide) rfl (Nat.le_of_ble_eq_true rfl) (by decide) ?_
    refine g_iadd d_X2_lateOfAll_18 ?_
    refine w_istore_n (L' := [_, _, _]) d_X2_lateOfAll_19 rfl rfl rfl ?_
    refine w_iinc (L' := [_, _, _]) d_X2_lateOfAll_20 ik_1 rfl rfl rfl rfl ?_
    refine g_goto d_X2_lateOfAll_23 ?_
    have q := ih (j + 1) (by omega)
    rw [show lateAllS g (j + 1) = lateAllS g j + lateS g j from rfl] at q
    rw [nI_1]
    exact q
theorem m_lateOfAll {o : Nat} {h g : Hv} (ho : isHall o) {N : Nat} (hN : g 0 3 = nI N) (hN6 : N ≤ 6) : MtF M_X2_lateOfAll 2 [.ref o] (pu h o g) (some (.int (lateAllS g N))) (pu h o g) := by
  refine MtF.of [some (.ref o), none, none] pl_X2 rfl rfl ?_
  refine g_iconst d_X2_lateOfAll_0 ik_0 ?_
  refine w_istore_n (L' := [_, _, _]) d_X2_lateOfAll_1 rfl rfl rfl ?_
  refine g_iconst d_X2_lateOfAll_2 ik_0 ?_
  refine w_istore_n (L' := [_, _, _]) d_X2_lateOfAll_3 rfl rfl rfl ?_
  refine lp_lateOfAll ho hN hN6 ?_ N 0 (by omega)
  refine g_iload_n d_X2_lateOfAll_26 rfl ?_
  refine h_iret d_X2_lateOfAll_27 rfl ?_
  exact pF rfl rfl
theorem lp_doneOfAll {o : Nat} {h g : Hv} (ho : isHall o) {M : Nat} (hM : g 0 2 = nI M) (hM5 : M ≤ 5) {P : Option Value → Hv → Prop} (kx : GdH M_X2_doneOfAll 0 27 [some (.ref o), some (.int (doneS g M)), some (.int (nI M))] [] (pu h o g) P) : ∀ (n j : Nat), j + n = M → GdH M_X2_doneOfAll 0 4 [some (.ref o), some (.int (doneS g j)), some (.int (nI j))] [] (pu h o g) P := by
  intro n
  induction n with
  | zero =>
    intro j hj
    have hj' : j = M := by omega
    rw [hj']
    refine g_iload_n d_X2_doneOfAll_4 rfl ?_
    refine g_aload_n d_X2_doneOfAll_5 rfl ?_
    refine hh_getV (v := nI M) d_X2_doneOfAll_6 fl_2_52 ho (by decide) (hM) ?_
    refine g_icmp_ge d_X2_doneOfAll_9 (fun c9 => ?_) (fun c9 => absurd (nI_le (a := M) (b := M) (Nat.le_refl _) (by omega)) c9)
    exact kx
  | succ n ih =>
    intro j hj
    refine g_iload_n d_X2_doneOfAll_4 rfl ?_
    refine g_aload_n d_X2_doneOfAll_5 rfl ?_
    refine hh_getV (v := nI M) d_X2_doneOfAll_6 fl_2_52 ho (by decide) (hM) ?_
    refine g_icmp_ge d_X2_doneOfAll_9 (fun c9 => absurd c9 (nI_ge (a := j) (b := M) (by omega) (by omega))) (fun c9 => ?_)
    refine g_iload_n d_X2_doneOfAll_12 rfl ?_
    refine g_aload_n d_X2_doneOfAll_13 rfl ?_
    refine h_getR d_X2_doneOfAll_14 fl_2_27 (sp_hall ho) rfl ?_
    refine g_iload_n d_X2_doneOfAll_17 rfl ?_
    refine hh_aldE (k := j) d_X2_doneOfAll_18 (sp_h6 ho) (by decide) rfl (by omega) (by decide) ?_
    refine g_iadd d_X2_doneOfAll_19 ?_
    refine w_istore_n (L' := [_, _, _]) d_X2_doneOfAll_20 rfl rfl rfl ?_
    refine w_iinc (L' := [_, _, _]) d_X2_doneOfAll_21 ik_1 rfl rfl rfl rfl ?_
    refine g_goto d_X2_doneOfAll_24 ?_
    have q := ih (j + 1) (by omega)
    rw [show doneS g (j + 1) = doneS g j + g 6 j from rfl] at q
    rw [nI_1]
    exact q
theorem m_doneOfAll {o : Nat} {h g : Hv} (ho : isHall o) {M : Nat} (hM : g 0 2 = nI M) (hM5 : M ≤ 5) : MtF M_X2_doneOfAll 0 [.ref o] (pu h o g) (some (.int (doneS g M))) (pu h o g) := by
  refine MtF.of [some (.ref o), none, none] pl_X2 rfl rfl ?_
  refine g_iconst d_X2_doneOfAll_0 ik_0 ?_
  refine w_istore_n (L' := [_, _, _]) d_X2_doneOfAll_1 rfl rfl rfl ?_
  refine g_iconst d_X2_doneOfAll_2 ik_0 ?_
  refine w_istore_n (L' := [_, _, _]) d_X2_doneOfAll_3 rfl rfl rfl ?_
  refine lp_doneOfAll ho hM hM5 ?_ M 0 (by omega)
  refine g_iload_n d_X2_doneOfAll_27 rfl ?_
  refine h_iret d_X2_doneOfAll_28 rfl ?_
  exact pF rfl rfl
theorem lp_busyBits {o : Nat} {h g : Hv} (ho : isHall o) {M : Nat} (hM : g 0 2 = nI M) (hM5 : M ≤ 5) {P : Option Value → Hv → Prop} (kx : GdH M_X2_busyBits 0 34 [some (.ref o), some (.int (busyS g M)), some (.int (nI M))] [] (pu h o g) P) : ∀ (n j : Nat), j + n = M → GdH M_X2_busyBits 0 4 [some (.ref o), some (.int (busyS g j)), some (.int (nI j))] [] (pu h o g) P := by
  intro n
  induction n with
  | zero =>
    intro j hj
    have hj' : j = M := by omega
    rw [hj']
    refine g_iload_n d_X2_busyBits_4 rfl ?_
    refine g_aload_n d_X2_busyBits_5 rfl ?_
    refine hh_getV (v := nI M) d_X2_busyBits_6 fl_2_52 ho (by decide) (hM) ?_
    refine g_icmp_ge d_X2_busyBits_9 (fun c9 => ?_) (fun c9 => absurd (nI_le (a := M) (b := M) (Nat.le_refl _) (by omega)) c9)
    exact kx
  | succ n ih =>
    intro j hj
    refine g_iload_n d_X2_busyBits_4 rfl ?_
    refine g_aload_n d_X2_busyBits_5 rfl ?_
    refine hh_getV (v := nI M) d_X2_busyBits_6 fl_2_52 ho (by decide) (hM) ?_
    refine g_icmp_ge d_X2_busyBits_9 (fun c9 => absurd c9 (nI_ge (a := j) (b := M) (by omega) (by omega))) (fun c9 => ?_)
    refine g_aload_n d_X2_busyBits_12 rfl ?_
    refine h_getR d_X2_busyBits_13 fl_2_21 (sp_hall ho) rfl ?_
    refine g_iload_n d_X2_busyBits_16 rfl ?_
    refine hh_aldE (k := j) d_X2_busyBits_17 (sp_h4 ho) (by decide) rfl (by omega) (by decide) ?_
    refine g_iconst d_X2_busyBits_18 ik_m1 ?_
    refine g_icmp_eq d_X2_busyBits_19 (fun c19 => ?_) (fun c19 => ?_)
    · refine w_iinc (L' := [_, _, _]) d_X2_busyBits_28 ik_1 rfl rfl rfl rfl ?_
      refine g_goto d_X2_busyBits_31 ?_
      have q := ih (j + 1) (by omega)
      first | rw [show busyS g (j + 1) = busyS g j from if_pos c19] at q | rw [show busyS g (j + 1) = busyS g j ||| 1 <<< (nI j &&& 31) from if_neg c19] at q
      rw [nI_1]
      exact q
    · refine g_iload_n d_X2_busyBits_22 rfl ?_
      refine g_iconst d_X2_busyBits_23 ik_1 ?_
      refine g_iload_n d_X2_busyBits_24 rfl ?_
      refine g_ishl d_X2_busyBits_25 ?_
      refine g_ior d_X2_busyBits_26 ?_
      refine w_istore_n (L' := [_, _, _]) d_X2_busyBits_27 rfl rfl rfl ?_
      refine w_iinc (L' := [_, _, _]) d_X2_busyBits_28 ik_1 rfl rfl rfl rfl ?_
      refine g_goto d_X2_busyBits_31 ?_
      have q := ih (j + 1) (by omega)
      first | rw [show busyS g (j + 1) = busyS g j from if_pos c19] at q | rw [show busyS g (j + 1) = busyS g j ||| 1 <<< (nI j &&& 31) from if_neg c19] at q
      rw [nI_1]
      exact q
theorem m_busyBits {o : Nat} {h g : Hv} (ho : isHall o) {M : Nat} (hM : g 0 2 = nI M) (hM5 : M ≤ 5) : MtF M_X2_busyBits 0 [.ref o] (pu h o g) (some (.int (busyS g M))) (pu h o g) := by
  refine MtF.of [some (.ref o), none, none] pl_X2 rfl rfl ?_
  refine g_iconst d_X2_busyBits_0 ik_0 ?_
  refine w_istore_n (L' := [_, _, _]) d_X2_busyBits_1 rfl rfl rfl ?_
  refine g_iconst d_X2_busyBits_2 ik_0 ?_
  refine w_istore_n (L' := [_, _, _]) d_X2_busyBits_3 rfl rfl rfl ?_
  refine lp_busyBits ho hM hM5 ?_ M 0 (by omega)
  refine g_iload_n d_X2_busyBits_34 rfl ?_
  refine h_iret d_X2_busyBits_35 rfl ?_
  exact pF rfl rfl
theorem lp_sizeOfAll {o : Nat} {h g : Hv} (ho : isHall o) {N : Nat} (hN : g 0 3 = nI N) (hN6 : N ≤ 6) {w : Int32} {P : Option Value → Hv → Prop} (kx : GdH M_X2_sizeOfAll 0 33 [some (.ref o), some (.int w), some (.int (sizeS g w N)), some (.int (nI N))] [] (pu h o g) P) : ∀ (n j : Nat), j + n = N → GdH M_X2_sizeOfAll 0 4 [some (.ref o), some (.int w), some (.int (sizeS g w j)), some (.int (nI j))] [] (pu h o g) P := by
  intro n
  induction n with
  | zero =>
    intro j hj
    have hj' : j = N := by omega
    rw [hj']
    refine g_iload_n d_X2_sizeOfAll_4 rfl ?_
    refine g_aload_n d_X2_sizeOfAll_5 rfl ?_
    refine hh_getV (v := nI N) d_X2_sizeOfAll_6 fl_2_55 ho (by decide) (hN) ?_
    refine g_icmp_ge d_X2_sizeOfAll_9 (fun c9 => ?_) (fun c9 => absurd (nI_le (a := N) (b := N) (Nat.le_refl _) (by omega)) c9)
    exact kx
  | succ n ih =>
    intro j hj
    refine g_iload_n d_X2_sizeOfAll_4 rfl ?_
    refine g_aload_n d_X2_sizeOfAll_5 rfl ?_
    refine hh_getV (v := nI N) d_X2_sizeOfAll_6 fl_2_55 ho (by decide) (hN) ?_
    refine g_icmp_ge d_X2_sizeOfAll_9 (fun c9 => absurd c9 (nI_ge (a := j) (b := N) (by omega) (by omega))) (fun c9 => ?_)
    refine g_iload_n d_X2_sizeOfAll_12 rfl ?_
    refine g_iload_n d_X2_sizeOfAll_13 rfl ?_
    refine g_iload_n d_X2_sizeOfAll_14 rfl ?_
    refine g_ishr d_X2_sizeOfAll_15 ?_
    refine g_iconst d_X2_sizeOfAll_16 ik_1 ?_
    refine g_iand d_X2_sizeOfAll_17 ?_
    refine g_aload_n d_X2_sizeOfAll_18 rfl ?_
    refine h_getR d_X2_sizeOfAll_19 fl_2_30 (sp_hall ho) rfl ?_
    refine g_iload_n d_X2_sizeOfAll_22 rfl ?_
    refine hh_aldE (k := j) d_X2_sizeOfAll_23 (sp_h7 ho) (by decide) rfl (by omega) (by decide) ?_
    refine g_imul d_X2_sizeOfAll_24 ?_
    refine g_iadd d_X2_sizeOfAll_25 ?_
    refine w_istore_n (L' := [_, _, _, _]) d_X2_sizeOfAll_26 rfl rfl rfl ?_
    refine w_iinc (L' := [_, _, _, _]) d_X2_sizeOfAll_27 ik_1 rfl rfl rfl rfl ?_
    refine g_goto d_X2_sizeOfAll_30 ?_
    have q := ih (j + 1) (by omega)
    rw [show sizeS g w (j + 1) = sizeS g w j + (w >>> (nI j &&& 31) &&& 1) * g 7 j from rfl] at q
    rw [nI_1]
    exact q
theorem m_sizeOfAll {o : Nat} {h g : Hv} (ho : isHall o) {N : Nat} (hN : g 0 3 = nI N) (hN6 : N ≤ 6) {w : Int32} : MtF M_X2_sizeOfAll 0 [.ref o, .int w] (pu h o g) (some (.int (sizeS g w N))) (pu h o g) := by
  refine MtF.of [some (.ref o), some (.int w), none, none] pl_X2 rfl rfl ?_
  refine g_iconst d_X2_sizeOfAll_0 ik_0 ?_
  refine w_istore_n (L' := [_, _, _, _]) d_X2_sizeOfAll_1 rfl rfl rfl ?_
  refine g_iconst d_X2_sizeOfAll_2 ik_0 ?_
  refine w_istore_n (L' := [_, _, _, _]) d_X2_sizeOfAll_3 rfl rfl rfl ?_
  refine lp_sizeOfAll ho hN hN6 ?_ N 0 (by omega)
  refine g_iload_n d_X2_sizeOfAll_33 rfl ?_
  refine h_iret d_X2_sizeOfAll_34 rfl ?_
  exact pF rfl rfl
theorem lp_quietTicks {o : Nat} {h g : Hv} (ho : isHall o) {M : Nat} (hM : g 0 2 = nI M) (hM5 : M ≤ 5) {w : Int32} {P : Option Value → Hv → Prop} (kx : GdH M_X2_quietTicks 1 41 [some (.ref o), some (.int w), some (.int (qtS g w M)), some (.int (nI M))] [] (pu h o g) P) : ∀ (n j : Nat), j + n = M → GdH M_X2_quietTicks 1 4 [some (.ref o), some (.int w), some (.int (qtS g w j)), some (.int (nI j))] [] (pu h o g) P := by
  intro n
  induction n with
  | zero =>
    intro j hj
    have hj' : j = M := by omega
    rw [hj']
    refine g_iload_n d_X2_quietTicks_4 rfl ?_
    refine g_aload_n d_X2_quietTicks_5 rfl ?_
    refine hh_getV (v := nI M) d_X2_quietTicks_6 fl_2_52 ho (by decide) (hM) ?_
    refine g_icmp_ge d_X2_quietTicks_9 (fun c9 => ?_) (fun c9 => absurd (nI_le (a := M) (b := M) (Nat.le_refl _) (by omega)) c9)
    exact kx
  | succ n ih =>
    intro j hj
    refine g_iload_n d_X2_quietTicks_4 rfl ?_
    refine g_aload_n d_X2_quietTicks_5 rfl ?_
    refine hh_getV (v := nI M) d_X2_quietTicks_6 fl_2_52 ho (by decide) (hM) ?_
    refine g_icmp_ge d_X2_quietTicks_9 (fun c9 => absurd c9 (nI_ge (a := j) (b := M) (by omega) (by omega))) (fun c9 => ?_)
    refine g_aload_n d_X2_quietTicks_12 rfl ?_
    refine h_getR d_X2_quietTicks_13 fl_2_21 (sp_hall ho) rfl ?_
    refine g_iload_n d_X2_quietTicks_16 rfl ?_
    refine hh_aldE (k := j) d_X2_quietTicks_17 (sp_h4 ho) (by decide) rfl (by omega) (by decide) ?_
    refine g_iconst d_X2_quietTicks_18 ik_m1 ?_
    refine g_icmp_eq d_X2_quietTicks_19 (fun c19 => ?_) (fun c19 => ?_)
    · refine w_iinc (L' := [_, _, _, _]) d_X2_quietTicks_35 ik_1 rfl rfl rfl rfl ?_
      refine g_goto d_X2_quietTicks_38 ?_
      have q := ih (j + 1) (by omega)
      first | rw [show qtS g w (j + 1) = qtS g w j from if_pos c19] at q | rw [show qtS g w (j + 1) = if g 5 j - 1 < qtS g w j then g 5 j - 1 else qtS g w j from if_neg c19] at q
      rw [nI_1]
      exact q
    · refine g_iload_n d_X2_quietTicks_22 rfl ?_
      refine g_aload_n d_X2_quietTicks_23 rfl ?_
      refine h_getR d_X2_quietTicks_24 fl_2_24 (sp_hall ho) rfl ?_
      refine g_iload_n d_X2_quietTicks_27 rfl ?_
      refine hh_aldE (k := j) d_X2_quietTicks_28 (sp_h5 ho) (by decide) rfl (by omega) (by decide) ?_
      refine g_iconst d_X2_quietTicks_29 ik_1 ?_
      refine g_isub d_X2_quietTicks_30 ?_
      refine g_mmin d_X2_quietTicks_31 mx_2_101 (Nat.le_of_ble_eq_true rfl) (by decide) ?_
      refine w_istore_n (L' := [_, _, _, _]) d_X2_quietTicks_34 rfl rfl rfl ?_
      refine w_iinc (L' := [_, _, _, _]) d_X2_quietTicks_35 ik_1 rfl rfl rfl rfl ?_
      refine g_goto d_X2_quietTicks_38 ?_
      have q := ih (j + 1) (by omega)
      first | rw [show qtS g w (j + 1) = qtS g w j from if_pos c19] at q | rw [show qtS g w (j + 1) = if g 5 j - 1 < qtS g w j then g 5 j - 1 else qtS g w j from if_neg c19] at q
      rw [nI_1]
      exact q
theorem m_quietTicks {o : Nat} {h g : Hv} (ho : isHall o) {M : Nat} (hM : g 0 2 = nI M) (hM5 : M ≤ 5) {w : Int32} : MtF M_X2_quietTicks 1 [.ref o, .int w] (pu h o g) (some (.int (if 0 < qtS g w M then qtS g w M else 0))) (pu h o g) := by
  refine MtF.of [some (.ref o), some (.int w), none, none] pl_X2 rfl rfl ?_
  refine g_iload_n d_X2_quietTicks_0 rfl ?_
  refine w_istore_n (L' := [_, _, _, _]) d_X2_quietTicks_1 rfl rfl rfl ?_
  refine g_iconst d_X2_quietTicks_2 ik_0 ?_
  refine w_istore_n (L' := [_, _, _, _]) d_X2_quietTicks_3 rfl rfl rfl ?_
  refine lp_quietTicks ho hM hM5 ?_ M 0 (by omega)
  refine g_iconst d_X2_quietTicks_41 ik_0 ?_
  refine g_iload_n d_X2_quietTicks_42 rfl ?_
  refine g_mmax d_X2_quietTicks_43 mx_2_71 (Nat.le_of_ble_eq_true rfl) (by decide) ?_
  refine h_iret d_X2_quietTicks_46 rfl ?_
  exact pF rfl rfl
theorem pqS_0 (g : Hv) (n : Int32) (b : Nat) (hb : b ≠ 1) : ∀ m, pqS g n m 0 b = g 0 b
  | 0 => hs_b hb
  | m + 1 => by
    unfold pqS
    split
    · exact pqS_0 g n b hb m
    · rw [hs_j (by decide)]
      exact pqS_0 g n b hb m
theorem lp_passQuietTicks {o : Nat} {h g : Hv} (ho : isHall o) {M : Nat} (hM : g 0 2 = nI M) (hM5 : M ≤ 5) {w : Int32} {P : Option Value → Hv → Prop} (kx : GdH M_X2_passQuietTicks 0 46 [some (.ref o), some (.int w), some (.int (nI M))] [] (pu h o (pqS g w M)) P) : ∀ (n j : Nat), j + n = M → GdH M_X2_passQuietTicks 0 12 [some (.ref o), some (.int w), some (.int (nI j))] [] (pu h o (pqS g w j)) P := by
  intro n
  induction n with
  | zero =>
    intro j hj
    have hj' : j = M := by omega
    rw [hj']
    refine g_iload_n d_X2_passQuietTicks_12 rfl ?_
    refine g_aload_n d_X2_passQuietTicks_13 rfl ?_
    refine hh_getV (v := nI M) d_X2_passQuietTicks_14 fl_2_52 ho (by decide) ((pqS_0 g w 2 (by decide) _).trans hM) ?_
    refine g_icmp_ge d_X2_passQuietTicks_17 (fun c17 => ?_) (fun c17 => absurd (nI_le (a := M) (b := M) (Nat.le_refl _) (by omega)) c17)
    exact kx
  | succ n ih =>
    intro j hj
    refine g_iload_n d_X2_passQuietTicks_12 rfl ?_
    refine g_aload_n d_X2_passQuietTicks_13 rfl ?_
    refine hh_getV (v := nI M) d_X2_passQuietTicks_14 fl_2_52 ho (by decide) ((pqS_0 g w 2 (by decide) _).trans hM) ?_
    refine g_icmp_ge d_X2_passQuietTicks_17 (fun c17 => absurd c17 (nI_ge (a := j) (b := M) (by omega) (by omega))) (fun c17 => ?_)
    refine g_aload_n d_X2_passQuietTicks_20 rfl ?_
    refine h_getR d_X2_passQuietTicks_21 fl_2_21 (sp_hall ho) rfl ?_
    refine g_iload_n d_X2_passQuietTicks_24 rfl ?_
    refine hh_aldE (k := j) d_X2_passQuietTicks_25 (sp_h4 ho) (by decide) rfl (by omega) (by decide) ?_
    refine g_iconst d_X2_passQuietTicks_26 ik_m1 ?_
    refine g_icmp_eq d_X2_passQuietTicks_27 (fun c27 => ?_) (fun c27 => ?_)
    · refine w_iinc (L' := [_, _, _]) d_X2_passQuietTicks_40 ik_1 rfl rfl rfl rfl ?_
      refine g_goto d_X2_passQuietTicks_43 ?_
      have q := ih (j + 1) (by omega)
      first | rw [show pqS g w (j + 1) = pqS g w j from if_pos c27] at q | rw [show pqS g w (j + 1) = hset (pqS g w j) 5 j ((pqS g w j) 5 j - w) from if_neg c27] at q
      rw [nI_1]
      exact q
    · refine g_aload_n d_X2_passQuietTicks_30 rfl ?_
      refine h_getR d_X2_passQuietTicks_31 fl_2_24 (sp_hall ho) rfl ?_
      refine g_iload_n d_X2_passQuietTicks_34 rfl ?_
      refine g_dup2 d_X2_passQuietTicks_35 rfl rfl ?_
      refine hh_aldE (k := j) d_X2_passQuietTicks_36 (sp_h5 ho) (by decide) rfl (by omega) (by decide) ?_
      refine g_iload_n d_X2_passQuietTicks_37 rfl ?_
      refine g_isub d_X2_passQuietTicks_38 ?_
      refine hh_astE (k := j) d_X2_passQuietTicks_39 (sp_h5 ho) (by decide) rfl (by omega) (by decide) ?_
      refine w_iinc (L' := [_, _, _]) d_X2_passQuietTicks_40 ik_1 rfl rfl rfl rfl ?_
      refine g_goto d_X2_passQuietTicks_43 ?_
      have q := ih (j + 1) (by omega)
      first | rw [show pqS g w (j + 1) = pqS g w j from if_pos c27] at q | rw [show pqS g w (j + 1) = hset (pqS g w j) 5 j ((pqS g w j) 5 j - w) from if_neg c27] at q
      rw [nI_1]
      exact q
theorem m_passQuietTicks {o : Nat} {h g : Hv} (ho : isHall o) {M : Nat} (hM : g 0 2 = nI M) (hM5 : M ≤ 5) {w : Int32} : MtF M_X2_passQuietTicks 0 [.ref o, .int w] (pu h o g) (none) (pu h o (pqS g w M)) := by
  refine MtF.of [some (.ref o), some (.int w), none] pl_X2 rfl rfl ?_
  refine g_aload_n d_X2_passQuietTicks_0 rfl ?_
  refine g_dup d_X2_passQuietTicks_1 rfl ?_
  refine hh_getI d_X2_passQuietTicks_2 fl_2_49 ho (by decide) ?_
  refine g_iload_n d_X2_passQuietTicks_5 rfl ?_
  refine g_iadd d_X2_passQuietTicks_6 ?_
  refine hh_putI d_X2_passQuietTicks_7 fl_2_49 ho (by decide) ?_
  refine g_iconst d_X2_passQuietTicks_10 ik_0 ?_
  refine w_istore_n (L' := [_, _, _]) d_X2_passQuietTicks_11 rfl rfl rfl ?_
  refine lp_passQuietTicks ho hM hM5 ?_ M 0 (by omega)
  refine h_vret d_X2_passQuietTicks_46 rfl ?_
  exact pF rfl rfl

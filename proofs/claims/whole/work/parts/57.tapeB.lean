/-! THE TAPE: the class reads law, machines, loads -/
def HG (H g : Hv) : Prop := ∀ j y, j < 12 → H (27 + j) y = g j y
def FrH (H H' : Hv) : Prop := ∀ x y, ¬ (x = 13 ∧ 2 ≤ y ∧ y ≤ 5) → ¬ (27 ≤ x ∧ x ≤ 38) → H' x y = H x y
def FLh (H H' : Hv) (e : Nat × Nat) : Prop := (∀ x y, ¬ (x = 13 ∧ 2 ≤ y ∧ y ≤ 6) → ¬ (27 ≤ x ∧ x ≤ 38) → H' x y = H x y) ∧ H' 13 6 = nI e.1 ∧ H' 13 3 = nI e.2
theorem FrT.h {H H' : Hv} (f : FrT H H') : FrH H H' := fun x y a _ => f x y a
theorem FrH.rf {H : Hv} : FrH H H := fun _ _ _ _ => rfl
theorem FrH.tr {H H' H'' : Hv} (a : FrH H H') (b : FrH H' H'') : FrH H H'' := fun x y h k => (b x y h k).trans (a x y h k)
theorem FLt.h {H H' : Hv} {e : Nat × Nat} (f : FLt H H' e) : FLh H H' e := ⟨fun x y a _ => f.1 x y a, f.2⟩
theorem FrH.fl {H H' H'' : Hv} {e : Nat × Nat} (a : FrH H H') (f : FLh H' H'' e) : FLh H H'' e := ⟨fun x y h k => (f.1 x y h k).trans (a x y (by omega) k), f.2⟩
theorem HG.fr {H H' g : Hv} (h : HG H g) (f : FrT H H') : HG H' g := fun j y hj => (f _ _ (by omega)).trans (h j y hj)
theorem CS.h27 {b : Nat → Nat} {L p : Nat} {H H' : Hv} (c : CS b L H p) (f : ∀ x y, ¬ (27 ≤ x ∧ x ≤ 38) → H' x y = H x y) : CS b L H' p := by
  obtain ⟨⟨a1, a2, a3⟩, c2, c3, c4, c5, c6⟩ := c
  exact ⟨⟨(f _ _ (by omega)).trans a1, a2, fun k hk => ⟨(f _ _ (by omega)).trans (a3 k hk).1, (a3 k hk).2⟩⟩, c2, (f _ _ (by omega)).trans c3, (f _ _ (by omega)).trans c4, (f _ _ (by omega)).trans c5, fun z => (f _ _ (by omega)).trans (c6 z)⟩
theorem hs_ext {g g' : Hv} {a c : Nat} {v : Int32} (e : ∀ j y, j < 12 → g j y = g' j y) : ∀ j y, j < 12 → hset g a c v j y = hset g' a c v j y := by
  intro j y hj
  unfold hset
  split
  · rfl
  · exact e j y hj
theorem addM_ext {g g' : Hv} {n : Nat} {x y z : Int32} (e : ∀ j y, j < 12 → g j y = g' j y) : ∀ j q, j < 12 → addM g n x y z j q = addM g' n x y z j q := by
  unfold addM
  rw [e 0 4 (by decide)]
  exact hs_ext (hs_ext (hs_ext (hs_ext (hs_ext (hs_ext (hs_ext (hs_ext e)))))))
theorem addL_ext {g g' : Hv} {n : Nat} {x y : Int32} (e : ∀ j y, j < 12 → g j y = g' j y) : ∀ j q, j < 12 → addL g n x y j q = addL g' n x y j q := by
  unfold addL dirtS
  exact hs_ext (hs_ext (hs_ext (hs_ext (hs_ext (hs_ext e)))))
theorem p5_addMachine {H g : Hv} (hg : HG H g) {n : Nat} (hM : g 0 2 = nI n) (hn : n < 5) {x y z : Int32} : MtH M_X2_addMachine 0 [.ref 27, .int x, .int y, .int z] H (fun v' H' => v' = none ∧ (∀ x y, ¬ (27 ≤ x ∧ x ≤ 38) → H' x y = H x y) ∧ HG H' (addM g n x y z)) := by
  have q := m_addMachine (h := H) (g := vw H 27) hall_27 (n := n) ((hg 0 2 (by decide)).trans hM) hn (a := x) (b := y) (c := z)
  rw [pu_vw] at q
  refine MtH.weaken q ?_
  rintro v' h' ⟨rfl, rfl⟩
  exact ⟨rfl, fun x y h => pu_out (by omega), fun j y hj => by rw [pu_at hj]; exact addM_ext (fun j y hj => hg j y hj) j y hj⟩
theorem p5_addLoad {H g : Hv} (hg : HG H g) {n : Nat} (hN : g 0 3 = nI n) (hn : n < 6) {x y : Int32} : MtH M_X2_addLoad 1 [.ref 27, .int x, .int y] H (fun v' H' => v' = none ∧ (∀ x y, ¬ (27 ≤ x ∧ x ≤ 38) → H' x y = H x y) ∧ HG H' (addL g n x y)) := by
  have q := m_addLoad (h := H) (g := vw H 27) hall_27 (n := n) ((hg 0 3 (by decide)).trans hN) hn (z := x) (u := y)
  rw [pu_vw] at q
  refine MtH.weaken q ?_
  rintro v' h' ⟨rfl, rfl⟩
  exact ⟨rfl, fun x y h => pu_out (by omega), fun j y hj => by rw [pu_at hj]; exact addL_ext (fun j y hj => hg j y hj) j y hj⟩
theorem m5_kindOfLetter {H : Hv} {c : Nat} (hc : c < 259) : MtF M_X5_kindOfLetter 0 [.int (nI c)] (H) (some (.int (nI (kindN c)))) (H) := by
  refine MtF.of [some (.int (nI c))] pl_X5 rfl rfl ?_
  refine g_iload_n d_X5_kindOfLetter_0 rfl ?_
  refine sw_X5_kindOfLetter_1 (fun e100 => ?_) (fun e103 => ?_) (fun e113 => ?_) (fun e115 => ?_) (fun e119 => ?_) (fun q100 q103 q113 q115 q119 => ?_)
  · refine g_iconst d_X5_kindOfLetter_58 ik_4 ?_
    refine h_iret d_X5_kindOfLetter_59 rfl ?_
    have hz : c = 100 := nI_inj (b := 100) e100 (by omega) (by decide)
    subst hz
    exact pF rfl rfl
  · refine g_iconst d_X5_kindOfLetter_56 ik_3 ?_
    refine h_iret d_X5_kindOfLetter_57 rfl ?_
    have hz : c = 103 := nI_inj (b := 103) e103 (by omega) (by decide)
    subst hz
    exact pF rfl rfl
  · refine g_iconst d_X5_kindOfLetter_54 ik_2 ?_
    refine h_iret d_X5_kindOfLetter_55 rfl ?_
    have hz : c = 113 := nI_inj (b := 113) e113 (by omega) (by decide)
    subst hz
    exact pF rfl rfl
  · refine g_iconst d_X5_kindOfLetter_60 ik_5 ?_
    refine h_iret d_X5_kindOfLetter_61 rfl ?_
    have hz : c = 115 := nI_inj (b := 115) e115 (by omega) (by decide)
    subst hz
    exact pF rfl rfl
  · refine g_iconst d_X5_kindOfLetter_52 ik_1 ?_
    refine h_iret d_X5_kindOfLetter_53 rfl ?_
    have hz : c = 119 := nI_inj (b := 119) e119 (by omega) (by decide)
    subst hz
    exact pF rfl rfl
  · refine g_iconst d_X5_kindOfLetter_62 ik_0 ?_
    refine h_iret d_X5_kindOfLetter_63 rfl ?_
    have hz : kindN c = 0 := by
      unfold kindN
      rw [if_neg (fun z => q119 (by rw [z]; rfl)), if_neg (fun z => q113 (by rw [z]; rfl)), if_neg (fun z => q103 (by rw [z]; rfl)), if_neg (fun z => q100 (by rw [z]; rfl)), if_neg (fun z => q115 (by rw [z]; rfl))]
    exact pF (by rw [hz]; rfl) rfl
def pLaw (b : Nat → Nat) (L p : Nat) : Except (Nat × Nat) (Nat × Nat) := match pPass b L 108 p with
  | .error e => .error e
  | .ok p1 => match pNum b L 1 5 p1 with
    | .error e => .error e
    | .ok (v1, p2) => match pPass b L 59 p2 with
      | .error e => .error e
      | .ok p3 => .ok (v1, p3)
def pMach (b : Nat → Nat) (L p : Nat) : Except (Nat × Nat) (Nat × Nat × Nat) := match pNum b L 1 9 (tkQ b L p) with
  | .error e => .error e
  | .ok (v1, p1) => match pPass b L 44 p1 with
    | .error e => .error e
    | .ok p2 => match pNum b L 0 5 p2 with
      | .error e => .error e
      | .ok (v2, p3) => match pPass b L 59 p3 with
        | .error e => .error e
        | .ok p4 => .ok (v1, v2, p4)
def pLoad (b : Nat → Nat) (L p : Nat) : Except (Nat × Nat) (Nat × Nat × Nat) := match pNum b L 1 9 (tkQ b L p) with
  | .error e => .error e
  | .ok (v1, p1) => match pPass b L 44 p1 with
    | .error e => .error e
    | .ok p2 => match pNum b L 0 60 p2 with
      | .error e => .error e
      | .ok (v2, p3) => match pPass b L 59 p3 with
        | .error e => .error e
        | .ok p4 => .ok (v1, v2, p4)
theorem m5_readLaw {b : Nat → Nat} {L p : Nat} {H g : Hv} (cs : CS b L H p) (hg : HG H g) : MtH M_X5_readLaw 4 [.ref 13, .ref 27] (H) ((fun v' H' => match pLaw b L p with | .ok (v, q) => v' = some (.int 1) ∧ FrH H H' ∧ CS b L H' q ∧ HG H' (hset g 0 0 (nI v)) | .error e => v' = some (.int 0) ∧ FLh H H' e)) := by
  refine MtH.of [some (.ref 13), some (.ref 27)] pl_X5 rfl rfl ?_
  refine g_aload_n d_X5_readLaw_0 rfl ?_
  refine g_bipush d_X5_readLaw_1 bk_108 ?_
  refine h_V1P d_X5_readLaw_3 cl_5_40 (m5_passes cs (c := 108) (by decide)) sp_Tape (by decide) rfl (Nat.le_of_ble_eq_true rfl) (by decide) ?_
  intro w1 H1 hp1
  cases hq1 : pPass b L 108 p with
  | error e =>
    rw [hq1] at hp1
    obtain ⟨rfl, hF⟩ := hp1
    have hr : pLaw b L p = .error e := by
      unfold pLaw
      rw [hq1]
      try dsimp only
    rw [hr]
    refine g_if_eq d_X5_readLaw_6 (fun c6 => ?_) (fun c6 => absurd rfl c6)
    refine g_iconst d_X5_readLaw_18 ik_0 ?_
    refine h_zret d_X5_readLaw_19 rfl rfl ?_
    exact ⟨rfl, hF.h⟩
  | ok r1 =>
    rw [hq1] at hp1
    obtain ⟨rfl, f1, c1⟩ := hp1
    refine g_if_eq d_X5_readLaw_6 (fun c6 => absurd c6 (by decide)) (fun c6 => ?_)
    refine g_aload_n d_X5_readLaw_9 rfl ?_
    refine g_iconst d_X5_readLaw_10 ik_1 ?_
    refine g_iconst d_X5_readLaw_11 ik_5 ?_
    refine h_V2P d_X5_readLaw_12 cl_5_44 (m5_isNumber c1 (lo := 1) (hi := 5) (by decide) (by decide)) sp_Tape (by decide) rfl (Nat.le_of_ble_eq_true rfl) (by decide) ?_
    intro w2 H2 hp2
    cases hq2 : pNum b L 1 5 r1 with
    | error e =>
      rw [hq2] at hp2
      obtain ⟨rfl, hF⟩ := hp2
      have hr : pLaw b L p = .error e := by
        unfold pLaw
        rw [hq1]
        try dsimp only
        rw [hq2]
        try dsimp only
      rw [hr]
      refine g_if_ne d_X5_readLaw_15 (fun c15 => absurd rfl c15) (fun c15 => ?_)
      refine g_iconst d_X5_readLaw_18 ik_0 ?_
      refine h_zret d_X5_readLaw_19 rfl rfl ?_
      exact ⟨rfl, f1.h.fl hF.h⟩
    | ok r2 =>
      obtain ⟨v2, q2⟩ := r2
      rw [hq2] at hp2
      obtain ⟨rfl, rfl⟩ := hp2
      refine g_if_ne d_X5_readLaw_15 (fun c15 => ?_) (fun c15 => absurd c15 (by decide))
      refine g_aload_n d_X5_readLaw_20 rfl ?_
      refine g_aload_n d_X5_readLaw_21 rfl ?_
      refine h_V0P d_X5_readLaw_22 cl_5_48 (m5_takeNumber c1 hq2) sp_Tape (by decide) rfl (Nat.le_of_ble_eq_true rfl) (by decide) ?_
      intro w4 H4 hp4
      obtain ⟨rfl, f4, c4⟩ := hp4
      refine h_putI d_X5_readLaw_25 fl_5_52 (sp_hall hall_27) rfl ?_
      have fp : FrH H4 (hset H4 27 0 (nI v2)) := fun x y _ h => hs_ne (by omega)
      have c5 : CS b L (hset H4 27 0 (nI v2)) q2 := c4.h27 (fun x y h => hs_ne (by omega))
      have hg2 : HG (hset H4 27 0 (nI v2)) (hset g 0 0 (nI v2)) := fun j y hj => by
        have e := ((hg.fr f1).fr f4) j y hj
        unfold hset
        by_cases z : j = 0 ∧ y = 0
        · rw [if_pos z, if_pos ⟨by omega, z.2⟩]
        · rw [if_neg z, if_neg (fun w => z ⟨by omega, w.2⟩)]; exact e
      refine g_aload_n d_X5_readLaw_28 rfl ?_
      refine g_bipush d_X5_readLaw_29 bk_59 ?_
      refine h_V1P d_X5_readLaw_31 cl_5_40 (m5_passes c5 (c := 59) (by decide)) sp_Tape (by decide) rfl (Nat.le_of_ble_eq_true rfl) (by decide) ?_
      intro w3 H3 hp3
      cases hq3 : pPass b L 59 q2 with
      | error e =>
        rw [hq3] at hp3
        obtain ⟨rfl, hF⟩ := hp3
        have hr : pLaw b L p = .error e := by
          unfold pLaw
          rw [hq1]
          try dsimp only
          rw [hq2]
          try dsimp only
          rw [hq3]
          try dsimp only
        rw [hr]
        refine h_zret d_X5_readLaw_34 rfl rfl ?_
        exact ⟨rfl, ((f1.h.tr f4.h).tr fp).fl hF.h⟩
      | ok r3 =>
        rw [hq3] at hp3
        obtain ⟨rfl, f3, c3⟩ := hp3
        have hr : pLaw b L p = .ok (v2, r3) := by
          unfold pLaw
          rw [hq1]
          try dsimp only
          rw [hq2]
          try dsimp only
          rw [hq3]
          try dsimp only
        rw [hr]
        refine h_zret d_X5_readLaw_34 rfl rfl ?_
        exact ⟨rfl, ((f1.h.tr f4.h).tr fp).tr f3.h, c3, hg2.fr f3⟩
theorem m5_readMachine {b : Nat → Nat} {L p : Nat} {H g : Hv} (cs : CS b L H p) (hg : HG H g) {n : Nat} (hM : g 0 2 = nI n) (hn : n < 5) : MtH M_X5_readMachine 4 [.ref 13, .ref 27] (H) ((fun v' H' => match pMach b L p with | .ok (v1, v2, q) => v' = some (.int 1) ∧ FrH H H' ∧ CS b L H' q ∧ HG H' (addM g n (nI (kindN (tkC b L p))) (nI v1) (nI v2)) | .error e => v' = some (.int 0) ∧ FLh H H' e)) := by
  refine MtH.of [some (.ref 13), some (.ref 27), none, none] pl_X5 rfl rfl ?_
  refine g_aload_n d_X5_readMachine_0 rfl ?_
  refine h_getV (v := nI (tkC b L p)) d_X5_readMachine_1 fl_5_55 sp_Tape rfl (cs.2.2.2.2.1) ?_
  refine h_S1i d_X5_readMachine_4 cl_5_58 (m5_kindOfLetter (tkC_lt (fun k hk => (cs.1.2.2 k hk).2))) (Nat.le_of_ble_eq_true rfl) (by decide) ?_
  refine w_istore_n (L' := [_, _, _, _]) d_X5_readMachine_7 rfl rfl rfl ?_
  refine g_aload_n d_X5_readMachine_8 rfl ?_
  refine h_V0P d_X5_readMachine_9 cl_5_27 (m5_toNext cs.1 (tkQ_le cs.2.1) cs.2.2.2.1) sp_Tape (by decide) rfl (Nat.le_of_ble_eq_true rfl) (by decide) ?_
  intro v' H0 hp0
  obtain ⟨rfl, f0, c0⟩ := hp0
  refine g_aload_n d_X5_readMachine_12 rfl ?_
  refine g_iconst d_X5_readMachine_13 ik_1 ?_
  refine g_bipush d_X5_readMachine_14 bk_9 ?_
  refine h_V2P d_X5_readMachine_16 cl_5_44 (m5_isNumber c0 (lo := 1) (hi := 9) (by decide) (by decide)) sp_Tape (by decide) rfl (Nat.le_of_ble_eq_true rfl) (by decide) ?_
  intro w1 H1 hp1
  cases hq1 : pNum b L 1 9 (tkQ b L p) with
  | error e =>
    rw [hq1] at hp1
    obtain ⟨rfl, hF⟩ := hp1
    have hr : pMach b L p = .error e := by
      unfold pMach
      rw [hq1]
      try dsimp only
    rw [hr]
    refine g_if_ne d_X5_readMachine_19 (fun c19 => absurd rfl c19) (fun c19 => ?_)
    refine g_iconst d_X5_readMachine_22 ik_0 ?_
    refine h_zret d_X5_readMachine_23 rfl rfl ?_
    exact ⟨rfl, f0.h.fl hF.h⟩
  | ok r1 =>
    obtain ⟨v1, q1⟩ := r1
    rw [hq1] at hp1
    obtain ⟨rfl, rfl⟩ := hp1
    refine g_if_ne d_X5_readMachine_19 (fun c19 => ?_) (fun c19 => absurd c19 (by decide))
    refine g_aload_n d_X5_readMachine_24 rfl ?_
    refine h_V0P d_X5_readMachine_25 cl_5_48 (m5_takeNumber c0 hq1) sp_Tape (by decide) rfl (Nat.le_of_ble_eq_true rfl) (by decide) ?_
    intro w5 H5 hp5
    obtain ⟨rfl, f5, c5⟩ := hp5
    refine w_istore_n (L' := [_, _, _, _]) d_X5_readMachine_28 rfl rfl rfl ?_
    refine g_aload_n d_X5_readMachine_29 rfl ?_
    refine g_bipush d_X5_readMachine_30 bk_44 ?_
    refine h_V1P d_X5_readMachine_32 cl_5_40 (m5_passes c5 (c := 44) (by decide)) sp_Tape (by decide) rfl (Nat.le_of_ble_eq_true rfl) (by decide) ?_
    intro w2 H2 hp2
    cases hq2 : pPass b L 44 q1 with
    | error e =>
      rw [hq2] at hp2
      obtain ⟨rfl, hF⟩ := hp2
      have hr : pMach b L p = .error e := by
        unfold pMach
        rw [hq1]
        try dsimp only
        rw [hq2]
        try dsimp only
      rw [hr]
      refine g_if_eq d_X5_readMachine_35 (fun c35 => ?_) (fun c35 => absurd rfl c35)
      refine g_iconst d_X5_readMachine_47 ik_0 ?_
      refine h_zret d_X5_readMachine_48 rfl rfl ?_
      exact ⟨rfl, (f0.h.tr f5.h).fl hF.h⟩
    | ok r2 =>
      rw [hq2] at hp2
      obtain ⟨rfl, f2, c2⟩ := hp2
      refine g_if_eq d_X5_readMachine_35 (fun c35 => absurd c35 (by decide)) (fun c35 => ?_)
      refine g_aload_n d_X5_readMachine_38 rfl ?_
      refine g_iconst d_X5_readMachine_39 ik_0 ?_
      refine g_iconst d_X5_readMachine_40 ik_5 ?_
      refine h_V2P d_X5_readMachine_41 cl_5_44 (m5_isNumber c2 (lo := 0) (hi := 5) (by decide) (by decide)) sp_Tape (by decide) rfl (Nat.le_of_ble_eq_true rfl) (by decide) ?_
      intro w3 H3 hp3
      cases hq3 : pNum b L 0 5 r2 with
      | error e =>
        rw [hq3] at hp3
        obtain ⟨rfl, hF⟩ := hp3
        have hr : pMach b L p = .error e := by
          unfold pMach
          rw [hq1]
          try dsimp only
          rw [hq2]
          try dsimp only
          rw [hq3]
          try dsimp only
        rw [hr]
        refine g_if_ne d_X5_readMachine_44 (fun c44 => absurd rfl c44) (fun c44 => ?_)
        refine g_iconst d_X5_readMachine_47 ik_0 ?_
        refine h_zret d_X5_readMachine_48 rfl rfl ?_
        exact ⟨rfl, ((f0.h.tr f5.h).tr f2.h).fl hF.h⟩
      | ok r3 =>
        obtain ⟨v3, q3⟩ := r3
        rw [hq3] at hp3
        obtain ⟨rfl, rfl⟩ := hp3
        refine g_if_ne d_X5_readMachine_44 (fun c44 => ?_) (fun c44 => absurd c44 (by decide))
        refine g_aload_n d_X5_readMachine_49 rfl ?_
        refine g_iload_n d_X5_readMachine_50 rfl ?_
        refine g_iload_n d_X5_readMachine_51 rfl ?_
        refine g_aload_n d_X5_readMachine_52 rfl ?_
        refine h_V0P d_X5_readMachine_53 cl_5_48 (m5_takeNumber c2 hq3) sp_Tape (by decide) rfl (Nat.le_of_ble_eq_true rfl) (by decide) ?_
        intro w6 H6 hp6
        obtain ⟨rfl, f6, c6⟩ := hp6
        refine h_V3P d_X5_readMachine_56 cl_5_71 (p5_addMachine ((((hg.fr f0).fr f5).fr f2).fr f6) hM hn) (sp_hall hall_27) (by decide) rfl (Nat.le_of_ble_eq_true rfl) (by decide) ?_
        intro w7 H7 hp7
        obtain ⟨rfl, fz, hg2⟩ := hp7
        have fp : FrH H6 H7 := fun x y _ h => fz x y h
        have c7 := c6.h27 fz
        refine g_aload_n d_X5_readMachine_59 rfl ?_
        refine g_bipush d_X5_readMachine_60 bk_59 ?_
        refine h_V1P d_X5_readMachine_62 cl_5_40 (m5_passes c7 (c := 59) (by decide)) sp_Tape (by decide) rfl (Nat.le_of_ble_eq_true rfl) (by decide) ?_
        intro w4 H4 hp4
        cases hq4 : pPass b L 59 q3 with
        | error e =>
          rw [hq4] at hp4
          obtain ⟨rfl, hF⟩ := hp4
          have hr : pMach b L p = .error e := by
            unfold pMach
            rw [hq1]
            try dsimp only
            rw [hq2]
            try dsimp only
            rw [hq3]
            try dsimp only
            rw [hq4]
            try dsimp only
          rw [hr]
          refine h_zret d_X5_readMachine_65 rfl rfl ?_
          exact ⟨rfl, (((((f0.h.tr f5.h).tr f2.h).tr f6.h).tr fp)).fl hF.h⟩
        | ok r4 =>
          rw [hq4] at hp4
          obtain ⟨rfl, f4, c4⟩ := hp4
          have hr : pMach b L p = .ok (v1, v3, r4) := by
            unfold pMach
            rw [hq1]
            try dsimp only
            rw [hq2]
            try dsimp only
            rw [hq3]
            try dsimp only
            rw [hq4]
            try dsimp only
          rw [hr]
          refine h_zret d_X5_readMachine_65 rfl rfl ?_
          exact ⟨rfl, (((((f0.h.tr f5.h).tr f2.h).tr f6.h).tr fp)).tr f4.h, c4, hg2.fr f4⟩
theorem m5_readLoad {b : Nat → Nat} {L p : Nat} {H g : Hv} (cs : CS b L H p) (hg : HG H g) {n : Nat} (hN : g 0 3 = nI n) (hn : n < 6) : MtH M_X5_readLoad 4 [.ref 13, .ref 27] (H) ((fun v' H' => match pLoad b L p with | .ok (v1, v2, q) => v' = some (.int 1) ∧ FrH H H' ∧ CS b L H' q ∧ HG H' (addL g n (nI v1) (nI v2)) | .error e => v' = some (.int 0) ∧ FLh H H' e)) := by
  refine MtH.of [some (.ref 13), some (.ref 27), none] pl_X5 rfl rfl ?_
  refine g_aload_n d_X5_readLoad_0 rfl ?_
  refine h_V0P d_X5_readLoad_1 cl_5_27 (m5_toNext cs.1 (tkQ_le cs.2.1) cs.2.2.2.1) sp_Tape (by decide) rfl (Nat.le_of_ble_eq_true rfl) (by decide) ?_
  intro v' H0 hp0
  obtain ⟨rfl, f0, c0⟩ := hp0
  refine g_aload_n d_X5_readLoad_4 rfl ?_
  refine g_iconst d_X5_readLoad_5 ik_1 ?_
  refine g_bipush d_X5_readLoad_6 bk_9 ?_
  refine h_V2P d_X5_readLoad_8 cl_5_44 (m5_isNumber c0 (lo := 1) (hi := 9) (by decide) (by decide)) sp_Tape (by decide) rfl (Nat.le_of_ble_eq_true rfl) (by decide) ?_
  intro w1 H1 hp1
  cases hq1 : pNum b L 1 9 (tkQ b L p) with
  | error e =>
    rw [hq1] at hp1
    obtain ⟨rfl, hF⟩ := hp1
    have hr : pLoad b L p = .error e := by
      unfold pLoad
      rw [hq1]
      try dsimp only
    rw [hr]
    refine g_if_ne d_X5_readLoad_11 (fun c11 => absurd rfl c11) (fun c11 => ?_)
    refine g_iconst d_X5_readLoad_14 ik_0 ?_
    refine h_zret d_X5_readLoad_15 rfl rfl ?_
    exact ⟨rfl, f0.h.fl hF.h⟩
  | ok r1 =>
    obtain ⟨v1, q1⟩ := r1
    rw [hq1] at hp1
    obtain ⟨rfl, rfl⟩ := hp1
    refine g_if_ne d_X5_readLoad_11 (fun c11 => ?_) (fun c11 => absurd c11 (by decide))
    refine g_aload_n d_X5_readLoad_16 rfl ?_
    refine h_V0P d_X5_readLoad_17 cl_5_48 (m5_takeNumber c0 hq1) sp_Tape (by decide) rfl (Nat.le_of_ble_eq_true rfl) (by decide) ?_
    intro w5 H5 hp5
    obtain ⟨rfl, f5, c5⟩ := hp5
    refine w_istore_n (L' := [_, _, _]) d_X5_readLoad_20 rfl rfl rfl ?_
    refine g_aload_n d_X5_readLoad_21 rfl ?_
    refine g_bipush d_X5_readLoad_22 bk_44 ?_
    refine h_V1P d_X5_readLoad_24 cl_5_40 (m5_passes c5 (c := 44) (by decide)) sp_Tape (by decide) rfl (Nat.le_of_ble_eq_true rfl) (by decide) ?_
    intro w2 H2 hp2
    cases hq2 : pPass b L 44 q1 with
    | error e =>
      rw [hq2] at hp2
      obtain ⟨rfl, hF⟩ := hp2
      have hr : pLoad b L p = .error e := by
        unfold pLoad
        rw [hq1]
        try dsimp only
        rw [hq2]
        try dsimp only
      rw [hr]
      refine g_if_eq d_X5_readLoad_27 (fun c27 => ?_) (fun c27 => absurd rfl c27)
      refine g_iconst d_X5_readLoad_40 ik_0 ?_
      refine h_zret d_X5_readLoad_41 rfl rfl ?_
      exact ⟨rfl, (f0.h.tr f5.h).fl hF.h⟩
    | ok r2 =>
      rw [hq2] at hp2
      obtain ⟨rfl, f2, c2⟩ := hp2
      refine g_if_eq d_X5_readLoad_27 (fun c27 => absurd c27 (by decide)) (fun c27 => ?_)
      refine g_aload_n d_X5_readLoad_30 rfl ?_
      refine g_iconst d_X5_readLoad_31 ik_0 ?_
      refine g_bipush d_X5_readLoad_32 bk_60 ?_
      refine h_V2P d_X5_readLoad_34 cl_5_44 (m5_isNumber c2 (lo := 0) (hi := 60) (by decide) (by decide)) sp_Tape (by decide) rfl (Nat.le_of_ble_eq_true rfl) (by decide) ?_
      intro w3 H3 hp3
      cases hq3 : pNum b L 0 60 r2 with
      | error e =>
        rw [hq3] at hp3
        obtain ⟨rfl, hF⟩ := hp3
        have hr : pLoad b L p = .error e := by
          unfold pLoad
          rw [hq1]
          try dsimp only
          rw [hq2]
          try dsimp only
          rw [hq3]
          try dsimp only
        rw [hr]
        refine g_if_ne d_X5_readLoad_37 (fun c37 => absurd rfl c37) (fun c37 => ?_)
        refine g_iconst d_X5_readLoad_40 ik_0 ?_
        refine h_zret d_X5_readLoad_41 rfl rfl ?_
        exact ⟨rfl, ((f0.h.tr f5.h).tr f2.h).fl hF.h⟩
      | ok r3 =>
        obtain ⟨v3, q3⟩ := r3
        rw [hq3] at hp3
        obtain ⟨rfl, rfl⟩ := hp3
        refine g_if_ne d_X5_readLoad_37 (fun c37 => ?_) (fun c37 => absurd c37 (by decide))
        refine g_aload_n d_X5_readLoad_42 rfl ?_
        refine g_iload_n d_X5_readLoad_43 rfl ?_
        refine g_aload_n d_X5_readLoad_44 rfl ?_
        refine h_V0P d_X5_readLoad_45 cl_5_48 (m5_takeNumber c2 hq3) sp_Tape (by decide) rfl (Nat.le_of_ble_eq_true rfl) (by decide) ?_
        intro w6 H6 hp6
        obtain ⟨rfl, f6, c6⟩ := hp6
        refine h_V2P d_X5_readLoad_48 cl_5_81 (p5_addLoad ((((hg.fr f0).fr f5).fr f2).fr f6) hN hn) (sp_hall hall_27) (by decide) rfl (Nat.le_of_ble_eq_true rfl) (by decide) ?_
        intro w7 H7 hp7
        obtain ⟨rfl, fz, hg2⟩ := hp7
        have fp : FrH H6 H7 := fun x y _ h => fz x y h
        have c7 := c6.h27 fz
        refine g_aload_n d_X5_readLoad_51 rfl ?_
        refine g_bipush d_X5_readLoad_52 bk_59 ?_
        refine h_V1P d_X5_readLoad_54 cl_5_40 (m5_passes c7 (c := 59) (by decide)) sp_Tape (by decide) rfl (Nat.le_of_ble_eq_true rfl) (by decide) ?_
        intro w4 H4 hp4
        cases hq4 : pPass b L 59 q3 with
        | error e =>
          rw [hq4] at hp4
          obtain ⟨rfl, hF⟩ := hp4
          have hr : pLoad b L p = .error e := by
            unfold pLoad
            rw [hq1]
            try dsimp only
            rw [hq2]
            try dsimp only
            rw [hq3]
            try dsimp only
            rw [hq4]
            try dsimp only
          rw [hr]
          refine h_zret d_X5_readLoad_57 rfl rfl ?_
          exact ⟨rfl, (((((f0.h.tr f5.h).tr f2.h).tr f6.h).tr fp)).fl hF.h⟩
        | ok r4 =>
          rw [hq4] at hp4
          obtain ⟨rfl, f4, c4⟩ := hp4
          have hr : pLoad b L p = .ok (v1, v3, r4) := by
            unfold pLoad
            rw [hq1]
            try dsimp only
            rw [hq2]
            try dsimp only
            rw [hq3]
            try dsimp only
            rw [hq4]
            try dsimp only
          rw [hr]
          refine h_zret d_X5_readLoad_57 rfl rfl ?_
          exact ⟨rfl, (((((f0.h.tr f5.h).tr f2.h).tr f6.h).tr fp)).tr f4.h, c4, hg2.fr f4⟩

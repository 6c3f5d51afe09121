/-! THE TAPE: the class reads all -/
def pMs (b : Nat → Nat) (L : Nat) : Nat → Nat → Nat → Hv → Except (Nat × Nat) (Nat × Nat × Hv)
  | 0, _, p, _ => .error (3, p)
  | f + 1, M, p, g => if kindN (tkC b L p) = 0 then (if M = 0 then .error (1, p) else .ok (M, p, g)) else if M = 5 then .error (3, p) else match pMach b L p with
    | .error e => .error e
    | .ok (v1, v2, q) => pMs b L f (M + 1) q (addM g M (nI (kindN (tkC b L p))) (nI v1) (nI v2))
def pLs (b : Nat → Nat) (L : Nat) : Nat → Nat → Nat → Hv → Except (Nat × Nat) (Nat × Hv)
  | 0, _, p, _ => .error (3, p)
  | f + 1, N, p, g => if tkC b L p = 98 then (if N = 6 then .error (3, p) else match pLoad b L p with
    | .error e => .error e
    | .ok (v1, v2, q) => pLs b L f (N + 1) q (addL g N (nI v1) (nI v2))) else if 0 < N ∧ tkC b L p = 257 then .ok (N, g) else .error (1, p)
def pAll (b : Nat → Nat) (L : Nat) (g0 : Hv) : Except (Nat × Nat) (Nat × Nat × Hv) := match pLaw b L 0 with
  | .error e => .error e
  | .ok (v, p1) => match pMs b L 6 0 p1 (hset (clrS g0) 0 0 (nI v)) with
    | .error e => .error e
    | .ok (M, p2, g2) => match pLs b L 7 0 p2 g2 with
      | .error e => .error e
      | .ok (N, g3) => .ok (M, N, g3)
theorem addM_02 {g : Hv} {n : Nat} {x y z : Int32} : addM g n x y z 0 2 = nI (n + 1) := hs_at
theorem addM_03 {g : Hv} {n : Nat} {x y z : Int32} : addM g n x y z 0 3 = g 0 3 := by
  unfold addM
  rw [hs_b (by decide), hs_b (by decide), hs_j (by decide), hs_j (by decide), hs_j (by decide), hs_j (by decide), hs_j (by decide), hs_j (by decide)]
theorem addL_03 {g : Hv} {n : Nat} {x y : Int32} : addL g n x y 0 3 = nI (n + 1) := hs_at
theorem fail_h {b : Nat → Nat} {L p : Nat} {H : Hv} {k : Nat} (cs : CS b L H p) : FLh H (hset H 13 6 (nI k)) (k, p) := ⟨fun x y h _ => hs_ne (by omega), hs_at, (hs_b (by decide)).trans cs.2.2.1⟩
theorem kindN_lt (c : Nat) : kindN c < 6 := by
  unfold kindN
  repeat' split
  all_goals omega
theorem lp_rm {b : Nat → Nat} {L : Nat} : ∀ (f M p : Nat) (g H : Hv), M + f = 5 → CS b L H p → HG H g → g 0 2 = nI M → GdH M_X5_readMachines 5 2 [some (.ref 13), some (.ref 27), some (.int (nI M))] [] H (fun v' H' => match pMs b L (f + 1) M p g with | .ok (M', q, g') => v' = some (.int 1) ∧ FrH H H' ∧ CS b L H' q ∧ HG H' g' ∧ g' 0 3 = g 0 3 | .error e => v' = some (.int 0) ∧ FLh H H' e) := by
  intro f
  induction f with
  | zero =>
    intro M p g H hf cs hg hM
    have hk := kindN_lt (tkC b L p)
    by_cases hz : kindN (tkC b L p) = 0
    · by_cases hM0 : M = 0
      · rw [show pMs b L (0 + 1) M p g = .error (1, p) by rw [pMs, if_pos hz, if_pos hM0]]
        refine g_iload_n d_X5_readMachines_2 rfl ?_
        refine g_iconst d_X5_readMachines_3 ik_5 ?_
        refine g_icmp_gt d_X5_readMachines_4 (fun c4 => absurd c4 (fun z => by have := (nI_ltI (a := 5) (b := M) (by decide) (by omega)).mp z; omega)) (fun c4 => ?_)
        refine g_aload_n d_X5_readMachines_7 rfl ?_
        refine h_getV (v := nI (tkC b L p)) d_X5_readMachines_8 fl_5_55 sp_Tape rfl (cs.2.2.2.2.1) ?_
        refine h_S1i d_X5_readMachines_11 cl_5_58 (m5_kindOfLetter (tkC_lt (fun k hk => (cs.1.2.2 k hk).2))) (Nat.le_of_ble_eq_true rfl) (by decide) ?_
        refine g_if_le d_X5_readMachines_14 (fun c14 => ?_) (fun c14 => absurd (show nI (kindN (tkC b L p)) ≤ 0 by rw [hz]; decide) c14)
        refine g_aload_n d_X5_readMachines_44 rfl ?_
        refine h_getV (v := nI M) d_X5_readMachines_45 fl_5_68 (sp_hall hall_27) rfl ((hg 0 2 (by decide)).trans hM) ?_
        refine g_if_gt d_X5_readMachines_48 (fun c48 => absurd c48 (by rw [hM0]; decide)) (fun c48 => ?_)
        refine g_aload_n d_X5_readMachines_51 rfl ?_
        refine g_iconst d_X5_readMachines_52 ik_1 ?_
        refine h_V1i d_X5_readMachines_53 cl_5_62 m5_failed sp_Tape (by decide) rfl (Nat.le_of_ble_eq_true rfl) (by decide) ?_
        refine g_if_eq d_X5_readMachines_56 (fun c56 => ?_) (fun c56 => absurd rfl c56)
        refine g_iconst d_X5_readMachines_63 ik_0 ?_
        refine h_zret d_X5_readMachines_64 rfl rfl ?_
        exact ⟨rfl, fail_h (k := 1) cs⟩
      · rw [show pMs b L (0 + 1) M p g = .ok (M, p, g) by rw [pMs, if_pos hz, if_neg hM0]]
        refine g_iload_n d_X5_readMachines_2 rfl ?_
        refine g_iconst d_X5_readMachines_3 ik_5 ?_
        refine g_icmp_gt d_X5_readMachines_4 (fun c4 => absurd c4 (fun z => by have := (nI_ltI (a := 5) (b := M) (by decide) (by omega)).mp z; omega)) (fun c4 => ?_)
        refine g_aload_n d_X5_readMachines_7 rfl ?_
        refine h_getV (v := nI (tkC b L p)) d_X5_readMachines_8 fl_5_55 sp_Tape rfl (cs.2.2.2.2.1) ?_
        refine h_S1i d_X5_readMachines_11 cl_5_58 (m5_kindOfLetter (tkC_lt (fun k hk => (cs.1.2.2 k hk).2))) (Nat.le_of_ble_eq_true rfl) (by decide) ?_
        refine g_if_le d_X5_readMachines_14 (fun c14 => ?_) (fun c14 => absurd (show nI (kindN (tkC b L p)) ≤ 0 by rw [hz]; decide) c14)
        refine g_aload_n d_X5_readMachines_44 rfl ?_
        refine h_getV (v := nI M) d_X5_readMachines_45 fl_5_68 (sp_hall hall_27) rfl ((hg 0 2 (by decide)).trans hM) ?_
        refine g_if_gt d_X5_readMachines_48 (fun c48 => ?_) (fun c48 => absurd (show (0 : Int32) < nI M from (nI_ltI (a := 0) (b := M) (by decide) (by omega)).mpr (by omega)) c48)
        refine g_iconst d_X5_readMachines_59 ik_1 ?_
        refine g_goto d_X5_readMachines_60 ?_
        refine h_zret d_X5_readMachines_64 rfl rfl ?_
        exact ⟨rfl, FrH.rf, cs, hg, rfl⟩
    · rw [show pMs b L (0 + 1) M p g = .error (3, p) by rw [pMs, if_neg hz, if_pos (by omega)]]
      refine g_iload_n d_X5_readMachines_2 rfl ?_
      refine g_iconst d_X5_readMachines_3 ik_5 ?_
      refine g_icmp_gt d_X5_readMachines_4 (fun c4 => absurd c4 (fun z => by have := (nI_ltI (a := 5) (b := M) (by decide) (by omega)).mp z; omega)) (fun c4 => ?_)
      refine g_aload_n d_X5_readMachines_7 rfl ?_
      refine h_getV (v := nI (tkC b L p)) d_X5_readMachines_8 fl_5_55 sp_Tape rfl (cs.2.2.2.2.1) ?_
      refine h_S1i d_X5_readMachines_11 cl_5_58 (m5_kindOfLetter (tkC_lt (fun k hk => (cs.1.2.2 k hk).2))) (Nat.le_of_ble_eq_true rfl) (by decide) ?_
      refine g_if_le d_X5_readMachines_14 (fun c14 => absurd c14 (nI_ge (a := 0) (b := kindN (tkC b L p)) (by omega) (by omega))) (fun c14 => ?_)
      refine g_iload_n d_X5_readMachines_17 rfl ?_
      refine g_iconst d_X5_readMachines_18 ik_5 ?_
      refine g_icmp_ne d_X5_readMachines_19 (fun c19 => absurd (show nI M = 5 by rw [show M = 5 by omega]; rfl) c19) (fun c19 => ?_)
      refine g_aload_n d_X5_readMachines_22 rfl ?_
      refine g_iconst d_X5_readMachines_23 ik_3 ?_
      refine h_V1i d_X5_readMachines_24 cl_5_62 m5_failed sp_Tape (by decide) rfl (Nat.le_of_ble_eq_true rfl) (by decide) ?_
      refine h_zret d_X5_readMachines_27 rfl rfl ?_
      exact ⟨rfl, fail_h (k := 3) cs⟩
  | succ f ih =>
    intro M p g H hf cs hg hM
    have hk := kindN_lt (tkC b L p)
    by_cases hz : kindN (tkC b L p) = 0
    · by_cases hM0 : M = 0
      · rw [show pMs b L (f + 1 + 1) M p g = .error (1, p) by rw [pMs, if_pos hz, if_pos hM0]]
        refine g_iload_n d_X5_readMachines_2 rfl ?_
        refine g_iconst d_X5_readMachines_3 ik_5 ?_
        refine g_icmp_gt d_X5_readMachines_4 (fun c4 => absurd c4 (fun z => by have := (nI_ltI (a := 5) (b := M) (by decide) (by omega)).mp z; omega)) (fun c4 => ?_)
        refine g_aload_n d_X5_readMachines_7 rfl ?_
        refine h_getV (v := nI (tkC b L p)) d_X5_readMachines_8 fl_5_55 sp_Tape rfl (cs.2.2.2.2.1) ?_
        refine h_S1i d_X5_readMachines_11 cl_5_58 (m5_kindOfLetter (tkC_lt (fun k hk => (cs.1.2.2 k hk).2))) (Nat.le_of_ble_eq_true rfl) (by decide) ?_
        refine g_if_le d_X5_readMachines_14 (fun c14 => ?_) (fun c14 => absurd (show nI (kindN (tkC b L p)) ≤ 0 by rw [hz]; decide) c14)
        refine g_aload_n d_X5_readMachines_44 rfl ?_
        refine h_getV (v := nI M) d_X5_readMachines_45 fl_5_68 (sp_hall hall_27) rfl ((hg 0 2 (by decide)).trans hM) ?_
        refine g_if_gt d_X5_readMachines_48 (fun c48 => absurd c48 (by rw [hM0]; decide)) (fun c48 => ?_)
        refine g_aload_n d_X5_readMachines_51 rfl ?_
        refine g_iconst d_X5_readMachines_52 ik_1 ?_
        refine h_V1i d_X5_readMachines_53 cl_5_62 m5_failed sp_Tape (by decide) rfl (Nat.le_of_ble_eq_true rfl) (by decide) ?_
        refine g_if_eq d_X5_readMachines_56 (fun c56 => ?_) (fun c56 => absurd rfl c56)
        refine g_iconst d_X5_readMachines_63 ik_0 ?_
        refine h_zret d_X5_readMachines_64 rfl rfl ?_
        exact ⟨rfl, fail_h (k := 1) cs⟩
      · rw [show pMs b L (f + 1 + 1) M p g = .ok (M, p, g) by rw [pMs, if_pos hz, if_neg hM0]]
        refine g_iload_n d_X5_readMachines_2 rfl ?_
        refine g_iconst d_X5_readMachines_3 ik_5 ?_
        refine g_icmp_gt d_X5_readMachines_4 (fun c4 => absurd c4 (fun z => by have := (nI_ltI (a := 5) (b := M) (by decide) (by omega)).mp z; omega)) (fun c4 => ?_)
        refine g_aload_n d_X5_readMachines_7 rfl ?_
        refine h_getV (v := nI (tkC b L p)) d_X5_readMachines_8 fl_5_55 sp_Tape rfl (cs.2.2.2.2.1) ?_
        refine h_S1i d_X5_readMachines_11 cl_5_58 (m5_kindOfLetter (tkC_lt (fun k hk => (cs.1.2.2 k hk).2))) (Nat.le_of_ble_eq_true rfl) (by decide) ?_
        refine g_if_le d_X5_readMachines_14 (fun c14 => ?_) (fun c14 => absurd (show nI (kindN (tkC b L p)) ≤ 0 by rw [hz]; decide) c14)
        refine g_aload_n d_X5_readMachines_44 rfl ?_
        refine h_getV (v := nI M) d_X5_readMachines_45 fl_5_68 (sp_hall hall_27) rfl ((hg 0 2 (by decide)).trans hM) ?_
        refine g_if_gt d_X5_readMachines_48 (fun c48 => ?_) (fun c48 => absurd (show (0 : Int32) < nI M from (nI_ltI (a := 0) (b := M) (by decide) (by omega)).mpr (by omega)) c48)
        refine g_iconst d_X5_readMachines_59 ik_1 ?_
        refine g_goto d_X5_readMachines_60 ?_
        refine h_zret d_X5_readMachines_64 rfl rfl ?_
        exact ⟨rfl, FrH.rf, cs, hg, rfl⟩
    · refine g_iload_n d_X5_readMachines_2 rfl ?_
      refine g_iconst d_X5_readMachines_3 ik_5 ?_
      refine g_icmp_gt d_X5_readMachines_4 (fun c4 => absurd c4 (fun z => by have := (nI_ltI (a := 5) (b := M) (by decide) (by omega)).mp z; omega)) (fun c4 => ?_)
      refine g_aload_n d_X5_readMachines_7 rfl ?_
      refine h_getV (v := nI (tkC b L p)) d_X5_readMachines_8 fl_5_55 sp_Tape rfl (cs.2.2.2.2.1) ?_
      refine h_S1i d_X5_readMachines_11 cl_5_58 (m5_kindOfLetter (tkC_lt (fun k hk => (cs.1.2.2 k hk).2))) (Nat.le_of_ble_eq_true rfl) (by decide) ?_
      refine g_if_le d_X5_readMachines_14 (fun c14 => absurd c14 (nI_ge (a := 0) (b := kindN (tkC b L p)) (by omega) (by omega))) (fun c14 => ?_)
      refine g_iload_n d_X5_readMachines_17 rfl ?_
      refine g_iconst d_X5_readMachines_18 ik_5 ?_
      refine g_icmp_ne d_X5_readMachines_19 (fun c19 => ?_) (fun c19 => absurd c19 (fun z => by have := nI_inj (a := M) (b := 5) z (by omega) (by decide); omega))
      refine g_aload_n d_X5_readMachines_28 rfl ?_
      refine g_aload_n d_X5_readMachines_29 rfl ?_
      refine h_V1P d_X5_readMachines_30 cl_5_65 (m5_readMachine cs hg hM (by omega)) sp_Tape (by decide) rfl (Nat.le_of_ble_eq_true rfl) (by decide) ?_
      intro w1 H1 hp1
      cases hq1 : pMach b L p with
      | error e =>
        rw [hq1] at hp1
        obtain ⟨rfl, hF⟩ := hp1
        rw [show pMs b L (f + 1 + 1) M p g = .error e by rw [pMs, if_neg hz, if_neg (by omega), hq1]]
        refine g_if_ne d_X5_readMachines_33 (fun c33 => absurd rfl c33) (fun c33 => ?_)
        refine g_iconst d_X5_readMachines_36 ik_0 ?_
        refine h_zret d_X5_readMachines_37 rfl rfl ?_
        exact ⟨rfl, hF⟩
      | ok r1 =>
        obtain ⟨v1, v2, q1⟩ := r1
        rw [hq1] at hp1
        obtain ⟨rfl, f1, c1, g1⟩ := hp1
        rw [show pMs b L (f + 1 + 1) M p g = pMs b L (f + 1) (M + 1) q1 (addM g M (nI (kindN (tkC b L p))) (nI v1) (nI v2)) by rw [pMs, if_neg hz, if_neg (by omega), hq1]]
        refine g_if_ne d_X5_readMachines_33 (fun c33 => ?_) (fun c33 => absurd c33 (by decide))
        refine w_iinc (L' := [_, _, _]) d_X5_readMachines_38 ik_1 rfl rfl rfl rfl ?_
        refine g_goto d_X5_readMachines_41 ?_
        rw [nI_1]
        refine h_weaken (ih (M + 1) q1 _ H1 (by omega) c1 g1 addM_02) ?_
        intro v' H' hp
        cases hx : pMs b L (f + 1) (M + 1) q1 (addM g M (nI (kindN (tkC b L p))) (nI v1) (nI v2)) with
        | error e => rw [hx] at hp; exact ⟨hp.1, f1.fl hp.2⟩
        | ok r =>
          obtain ⟨M', q', g'⟩ := r
          rw [hx] at hp
          exact ⟨hp.1, f1.tr hp.2.1, hp.2.2.1, hp.2.2.2.1, hp.2.2.2.2.trans addM_03⟩
theorem m5_readMachines {b : Nat → Nat} {L p : Nat} {H g : Hv} (cs : CS b L H p) (hg : HG H g) (hM : g 0 2 = nI 0) : MtH M_X5_readMachines 5 [.ref 13, .ref 27] (H) ((fun v' H' => match pMs b L 6 0 p g with | .ok (M', q, g') => v' = some (.int 1) ∧ FrH H H' ∧ CS b L H' q ∧ HG H' g' ∧ g' 0 3 = g 0 3 | .error e => v' = some (.int 0) ∧ FLh H H' e)) := by
  refine MtH.of [some (.ref 13), some (.ref 27), none] pl_X5 rfl rfl ?_
  refine g_iconst d_X5_readMachines_0 ik_0 ?_
  refine w_istore_n (L' := [_, _, _]) d_X5_readMachines_1 rfl rfl rfl ?_
  exact lp_rm 5 0 p g H rfl cs hg hM
theorem lp_rl {b : Nat → Nat} {L : Nat} : ∀ (f N p : Nat) (g H : Hv), N + f = 6 → CS b L H p → HG H g → g 0 3 = nI N → GdH M_X5_readLoads 5 2 [some (.ref 13), some (.ref 27), some (.int (nI N))] [] H (fun v' H' => match pLs b L (f + 1) N p g with | .ok (N', g') => v' = some (.int 1) ∧ (∀ x y, ¬ (x = 13 ∧ 2 ≤ y ∧ y ≤ 5) → ¬ (27 ≤ x ∧ x ≤ 38) → H' x y = H x y) ∧ HG H' g' | .error e => v' = some (.int 0) ∧ FLh H H' e) := by
  intro f
  induction f with
  | zero =>
    intro N p g H hf cs hg hN
    have hC := tkC_lt (p := p) (fun k hk => (cs.1.2.2 k hk).2)
    by_cases hz : tkC b L p = 98
    · rw [show pLs b L (0 + 1) N p g = .error (3, p) by rw [pLs, if_pos hz, if_pos (by omega)]]
      refine g_iload_n d_X5_readLoads_2 rfl ?_
      refine g_bipush d_X5_readLoads_3 bk_6 ?_
      refine g_icmp_gt d_X5_readLoads_5 (fun c5 => absurd c5 (fun z => by have := (nI_ltI (a := 6) (b := N) (by decide) (by omega)).mp z; omega)) (fun c5 => ?_)
      refine g_aload_n d_X5_readLoads_8 rfl ?_
      refine h_getV (v := nI (tkC b L p)) d_X5_readLoads_9 fl_5_55 sp_Tape rfl (cs.2.2.2.2.1) ?_
      refine g_bipush d_X5_readLoads_12 bk_98 ?_
      refine g_icmp_ne d_X5_readLoads_14 (fun c14 => absurd (show nI (tkC b L p) = 98 by rw [hz]; rfl) c14) (fun c14 => ?_)
      refine g_iload_n d_X5_readLoads_17 rfl ?_
      refine g_bipush d_X5_readLoads_18 bk_6 ?_
      refine g_icmp_ne d_X5_readLoads_20 (fun c20 => absurd (show nI N = 6 by rw [show N = 6 by omega]; rfl) c20) (fun c20 => ?_)
      refine g_aload_n d_X5_readLoads_23 rfl ?_
      refine g_iconst d_X5_readLoads_24 ik_3 ?_
      refine h_V1i d_X5_readLoads_25 cl_5_62 m5_failed sp_Tape (by decide) rfl (Nat.le_of_ble_eq_true rfl) (by decide) ?_
      refine h_zret d_X5_readLoads_28 rfl rfl ?_
      exact ⟨rfl, fail_h (k := 3) cs⟩
    · by_cases hw : 0 < N ∧ tkC b L p = 257
      · rw [show pLs b L (0 + 1) N p g = .ok (N, g) by rw [pLs, if_neg hz, if_pos hw]]
        refine g_iload_n d_X5_readLoads_2 rfl ?_
        refine g_bipush d_X5_readLoads_3 bk_6 ?_
        refine g_icmp_gt d_X5_readLoads_5 (fun c5 => absurd c5 (fun z => by have := (nI_ltI (a := 6) (b := N) (by decide) (by omega)).mp z; omega)) (fun c5 => ?_)
        refine g_aload_n d_X5_readLoads_8 rfl ?_
        refine h_getV (v := nI (tkC b L p)) d_X5_readLoads_9 fl_5_55 sp_Tape rfl (cs.2.2.2.2.1) ?_
        refine g_bipush d_X5_readLoads_12 bk_98 ?_
        refine g_icmp_ne d_X5_readLoads_14 (fun c14 => ?_) (fun c14 => absurd c14 (fun z => hz (nI_inj (b := 98) z (by omega) (by decide))))
        refine g_aload_n d_X5_readLoads_45 rfl ?_
        refine h_getV (v := nI N) d_X5_readLoads_46 fl_5_78 (sp_hall hall_27) rfl ((hg 0 3 (by decide)).trans hN) ?_
        refine g_if_le d_X5_readLoads_49 (fun c49 => absurd c49 (nI_ge (a := 0) (b := N) hw.1 (by omega))) (fun c49 => ?_)
        refine g_aload_n d_X5_readLoads_52 rfl ?_
        refine h_getV (v := nI (tkC b L p)) d_X5_readLoads_53 fl_5_55 sp_Tape rfl (cs.2.2.2.2.1) ?_
        refine g_sipush d_X5_readLoads_56 sk_257 ?_
        refine g_icmp_eq d_X5_readLoads_59 (fun c59 => ?_) (fun c59 => absurd (show nI (tkC b L p) = 257 by rw [hw.2]; rfl) c59)
        refine g_iconst d_X5_readLoads_70 ik_1 ?_
        refine g_goto d_X5_readLoads_71 ?_
        refine h_zret d_X5_readLoads_75 rfl rfl ?_
        exact ⟨rfl, fun x y _ _ => rfl, hg⟩
      · rw [show pLs b L (0 + 1) N p g = .error (1, p) by rw [pLs, if_neg hz, if_neg hw]]
        refine g_iload_n d_X5_readLoads_2 rfl ?_
        refine g_bipush d_X5_readLoads_3 bk_6 ?_
        refine g_icmp_gt d_X5_readLoads_5 (fun c5 => absurd c5 (fun z => by have := (nI_ltI (a := 6) (b := N) (by decide) (by omega)).mp z; omega)) (fun c5 => ?_)
        refine g_aload_n d_X5_readLoads_8 rfl ?_
        refine h_getV (v := nI (tkC b L p)) d_X5_readLoads_9 fl_5_55 sp_Tape rfl (cs.2.2.2.2.1) ?_
        refine g_bipush d_X5_readLoads_12 bk_98 ?_
        refine g_icmp_ne d_X5_readLoads_14 (fun c14 => ?_) (fun c14 => absurd c14 (fun z => hz (nI_inj (b := 98) z (by omega) (by decide))))
        refine g_aload_n d_X5_readLoads_45 rfl ?_
        refine h_getV (v := nI N) d_X5_readLoads_46 fl_5_78 (sp_hall hall_27) rfl ((hg 0 3 (by decide)).trans hN) ?_
        refine g_if_le d_X5_readLoads_49 (fun c49 => ?_) (fun c49 => ?_)
        · refine g_aload_n d_X5_readLoads_62 rfl ?_
          refine g_iconst d_X5_readLoads_63 ik_1 ?_
          refine h_V1i d_X5_readLoads_64 cl_5_62 m5_failed sp_Tape (by decide) rfl (Nat.le_of_ble_eq_true rfl) (by decide) ?_
          refine g_if_eq d_X5_readLoads_67 (fun c67 => ?_) (fun c67 => absurd rfl c67)
          refine g_iconst d_X5_readLoads_74 ik_0 ?_
          refine h_zret d_X5_readLoads_75 rfl rfl ?_
          exact ⟨rfl, fail_h (k := 1) cs⟩
        · refine g_aload_n d_X5_readLoads_52 rfl ?_
          refine h_getV (v := nI (tkC b L p)) d_X5_readLoads_53 fl_5_55 sp_Tape rfl (cs.2.2.2.2.1) ?_
          refine g_sipush d_X5_readLoads_56 sk_257 ?_
          refine g_icmp_eq d_X5_readLoads_59 (fun c59 => ?_) (fun c59 => ?_)
          · exact absurd ⟨by rcases Nat.eq_zero_or_pos N with z | z; rw [z] at c49; exact absurd (by decide) c49; exact z, nI_inj (b := 257) c59 (by omega) (by decide)⟩ hw
          · refine g_aload_n d_X5_readLoads_62 rfl ?_
            refine g_iconst d_X5_readLoads_63 ik_1 ?_
            refine h_V1i d_X5_readLoads_64 cl_5_62 m5_failed sp_Tape (by decide) rfl (Nat.le_of_ble_eq_true rfl) (by decide) ?_
            refine g_if_eq d_X5_readLoads_67 (fun c67 => ?_) (fun c67 => absurd rfl c67)
            refine g_iconst d_X5_readLoads_74 ik_0 ?_
            refine h_zret d_X5_readLoads_75 rfl rfl ?_
            exact ⟨rfl, fail_h (k := 1) cs⟩
  | succ f ih =>
    intro N p g H hf cs hg hN
    have hC := tkC_lt (p := p) (fun k hk => (cs.1.2.2 k hk).2)
    by_cases hz : tkC b L p = 98
    · refine g_iload_n d_X5_readLoads_2 rfl ?_
      refine g_bipush d_X5_readLoads_3 bk_6 ?_
      refine g_icmp_gt d_X5_readLoads_5 (fun c5 => absurd c5 (fun z => by have := (nI_ltI (a := 6) (b := N) (by decide) (by omega)).mp z; omega)) (fun c5 => ?_)
      refine g_aload_n d_X5_readLoads_8 rfl ?_
      refine h_getV (v := nI (tkC b L p)) d_X5_readLoads_9 fl_5_55 sp_Tape rfl (cs.2.2.2.2.1) ?_
      refine g_bipush d_X5_readLoads_12 bk_98 ?_
      refine g_icmp_ne d_X5_readLoads_14 (fun c14 => absurd (show nI (tkC b L p) = 98 by rw [hz]; rfl) c14) (fun c14 => ?_)
      refine g_iload_n d_X5_readLoads_17 rfl ?_
      refine g_bipush d_X5_readLoads_18 bk_6 ?_
      refine g_icmp_ne d_X5_readLoads_20 (fun c20 => ?_) (fun c20 => absurd c20 (fun z => by have := nI_inj (a := N) (b := 6) z (by omega) (by decide); omega))
      refine g_aload_n d_X5_readLoads_29 rfl ?_
      refine g_aload_n d_X5_readLoads_30 rfl ?_
      refine h_V1P d_X5_readLoads_31 cl_5_75 (m5_readLoad cs hg hN (by omega)) sp_Tape (by decide) rfl (Nat.le_of_ble_eq_true rfl) (by decide) ?_
      intro w1 H1 hp1
      cases hq1 : pLoad b L p with
      | error e =>
        rw [hq1] at hp1
        obtain ⟨rfl, hF⟩ := hp1
        rw [show pLs b L (f + 1 + 1) N p g = .error e by rw [pLs, if_pos hz, if_neg (by omega), hq1]]
        refine g_if_ne d_X5_readLoads_34 (fun c34 => absurd rfl c34) (fun c34 => ?_)
        refine g_iconst d_X5_readLoads_37 ik_0 ?_
        refine h_zret d_X5_readLoads_38 rfl rfl ?_
        exact ⟨rfl, hF⟩
      | ok r1 =>
        obtain ⟨v1, v2, q1⟩ := r1
        rw [hq1] at hp1
        obtain ⟨rfl, f1, c1, g1⟩ := hp1
        rw [show pLs b L (f + 1 + 1) N p g = pLs b L (f + 1) (N + 1) q1 (addL g N (nI v1) (nI v2)) by rw [pLs, if_pos hz, if_neg (by omega), hq1]]
        refine g_if_ne d_X5_readLoads_34 (fun c34 => ?_) (fun c34 => absurd c34 (by decide))
        refine w_iinc (L' := [_, _, _]) d_X5_readLoads_39 ik_1 rfl rfl rfl rfl ?_
        refine g_goto d_X5_readLoads_42 ?_
        rw [nI_1]
        refine h_weaken (ih (N + 1) q1 _ H1 (by omega) c1 g1 addL_03) ?_
        intro v' H' hp
        cases hx : pLs b L (f + 1) (N + 1) q1 (addL g N (nI v1) (nI v2)) with
        | error e => rw [hx] at hp; exact ⟨hp.1, f1.fl hp.2⟩
        | ok r =>
          obtain ⟨N', g'⟩ := r
          rw [hx] at hp
          exact ⟨hp.1, f1.tr hp.2.1, hp.2.2⟩
    · by_cases hw : 0 < N ∧ tkC b L p = 257
      · rw [show pLs b L (f + 1 + 1) N p g = .ok (N, g) by rw [pLs, if_neg hz, if_pos hw]]
        refine g_iload_n d_X5_readLoads_2 rfl ?_
        refine g_bipush d_X5_readLoads_3 bk_6 ?_
        refine g_icmp_gt d_X5_readLoads_5 (fun c5 => absurd c5 (fun z => by have := (nI_ltI (a := 6) (b := N) (by decide) (by omega)).mp z; omega)) (fun c5 => ?_)
        refine g_aload_n d_X5_readLoads_8 rfl ?_
        refine h_getV (v := nI (tkC b L p)) d_X5_readLoads_9 fl_5_55 sp_Tape rfl (cs.2.2.2.2.1) ?_
        refine g_bipush d_X5_readLoads_12 bk_98 ?_
        refine g_icmp_ne d_X5_readLoads_14 (fun c14 => ?_) (fun c14 => absurd c14 (fun z => hz (nI_inj (b := 98) z (by omega) (by decide))))
        refine g_aload_n d_X5_readLoads_45 rfl ?_
        refine h_getV (v := nI N) d_X5_readLoads_46 fl_5_78 (sp_hall hall_27) rfl ((hg 0 3 (by decide)).trans hN) ?_
        refine g_if_le d_X5_readLoads_49 (fun c49 => absurd c49 (nI_ge (a := 0) (b := N) hw.1 (by omega))) (fun c49 => ?_)
        refine g_aload_n d_X5_readLoads_52 rfl ?_
        refine h_getV (v := nI (tkC b L p)) d_X5_readLoads_53 fl_5_55 sp_Tape rfl (cs.2.2.2.2.1) ?_
        refine g_sipush d_X5_readLoads_56 sk_257 ?_
        refine g_icmp_eq d_X5_readLoads_59 (fun c59 => ?_) (fun c59 => absurd (show nI (tkC b L p) = 257 by rw [hw.2]; rfl) c59)
        refine g_iconst d_X5_readLoads_70 ik_1 ?_
        refine g_goto d_X5_readLoads_71 ?_
        refine h_zret d_X5_readLoads_75 rfl rfl ?_
        exact ⟨rfl, fun x y _ _ => rfl, hg⟩
      · rw [show pLs b L (f + 1 + 1) N p g = .error (1, p) by rw [pLs, if_neg hz, if_neg hw]]
        refine g_iload_n d_X5_readLoads_2 rfl ?_
        refine g_bipush d_X5_readLoads_3 bk_6 ?_
        refine g_icmp_gt d_X5_readLoads_5 (fun c5 => absurd c5 (fun z => by have := (nI_ltI (a := 6) (b := N) (by decide) (by omega)).mp z; omega)) (fun c5 => ?_)
        refine g_aload_n d_X5_readLoads_8 rfl ?_
        refine h_getV (v := nI (tkC b L p)) d_X5_readLoads_9 fl_5_55 sp_Tape rfl (cs.2.2.2.2.1) ?_
        refine g_bipush d_X5_readLoads_12 bk_98 ?_
        refine g_icmp_ne d_X5_readLoads_14 (fun c14 => ?_) (fun c14 => absurd c14 (fun z => hz (nI_inj (b := 98) z (by omega) (by decide))))
        refine g_aload_n d_X5_readLoads_45 rfl ?_
        refine h_getV (v := nI N) d_X5_readLoads_46 fl_5_78 (sp_hall hall_27) rfl ((hg 0 3 (by decide)).trans hN) ?_
        refine g_if_le d_X5_readLoads_49 (fun c49 => ?_) (fun c49 => ?_)
        · refine g_aload_n d_X5_readLoads_62 rfl ?_
          refine g_iconst d_X5_readLoads_63 ik_1 ?_
          refine h_V1i d_X5_readLoads_64 cl_5_62 m5_failed sp_Tape (by decide) rfl (Nat.le_of_ble_eq_true rfl) (by decide) ?_
          refine g_if_eq d_X5_readLoads_67 (fun c67 => ?_) (fun c67 => absurd rfl c67)
          refine g_iconst d_X5_readLoads_74 ik_0 ?_
          refine h_zret d_X5_readLoads_75 rfl rfl ?_
          exact ⟨rfl, fail_h (k := 1) cs⟩
        · refine g_aload_n d_X5_readLoads_52 rfl ?_
          refine h_getV (v := nI (tkC b L p)) d_X5_readLoads_53 fl_5_55 sp_Tape rfl (cs.2.2.2.2.1) ?_
          refine g_sipush d_X5_readLoads_56 sk_257 ?_
          refine g_icmp_eq d_X5_readLoads_59 (fun c59 => ?_) (fun c59 => ?_)
          · exact absurd ⟨by rcases Nat.eq_zero_or_pos N with z | z; rw [z] at c49; exact absurd (by decide) c49; exact z, nI_inj (b := 257) c59 (by omega) (by decide)⟩ hw
          · refine g_aload_n d_X5_readLoads_62 rfl ?_
            refine g_iconst d_X5_readLoads_63 ik_1 ?_
            refine h_V1i d_X5_readLoads_64 cl_5_62 m5_failed sp_Tape (by decide) rfl (Nat.le_of_ble_eq_true rfl) (by decide) ?_
            refine g_if_eq d_X5_readLoads_67 (fun c67 => ?_) (fun c67 => absurd rfl c67)
            refine g_iconst d_X5_readLoads_74 ik_0 ?_
            refine h_zret d_X5_readLoads_75 rfl rfl ?_
            exact ⟨rfl, fail_h (k := 1) cs⟩
theorem m5_readLoads {b : Nat → Nat} {L p : Nat} {H g : Hv} (cs : CS b L H p) (hg : HG H g) (hN : g 0 3 = nI 0) : MtH M_X5_readLoads 5 [.ref 13, .ref 27] (H) ((fun v' H' => match pLs b L 7 0 p g with | .ok (N', g') => v' = some (.int 1) ∧ (∀ x y, ¬ (x = 13 ∧ 2 ≤ y ∧ y ≤ 5) → ¬ (27 ≤ x ∧ x ≤ 38) → H' x y = H x y) ∧ HG H' g' | .error e => v' = some (.int 0) ∧ FLh H H' e)) := by
  refine MtH.of [some (.ref 13), some (.ref 27), none] pl_X5 rfl rfl ?_
  refine g_iconst d_X5_readLoads_0 ik_0 ?_
  refine w_istore_n (L' := [_, _, _]) d_X5_readLoads_1 rfl rfl rfl ?_
  exact lp_rl 6 0 p g H rfl cs hg hN
theorem clrS_ext {g g' : Hv} (e : ∀ j y, j < 12 → g j y = g' j y) : ∀ j q, j < 12 → clrS g j q = clrS g' j q := by
  unfold clrS
  exact hs_ext (hs_ext (hs_ext (hs_ext (hs_ext e))))
theorem p5_clear {H g : Hv} (hg : HG H g) : MtH M_X2_clear 0 [.ref 27] H (fun v' H' => v' = none ∧ (∀ x y, ¬ (27 ≤ x ∧ x ≤ 38) → H' x y = H x y) ∧ HG H' (clrS g)) := by
  have q := m_clear (h := H) (g := vw H 27) hall_27
  rw [pu_vw] at q
  refine MtH.weaken q ?_
  rintro v' h' ⟨rfl, rfl⟩
  exact ⟨rfl, fun x y h => pu_out (by omega), fun j y hj => by rw [pu_at hj]; exact clrS_ext (fun j y hj => hg j y hj) j y hj⟩
theorem m5_readInto {b : Nat → Nat} {L : Nat} {H g : Hv} (cb : CB b L H) (hg : HG H g) : MtH M_X5_readInto 6 [.ref 13, .ref 27] (H) ((fun v' H' => match pAll b L g with | .ok (M, N, g') => v' = some (.int 1) ∧ FrH H H' ∧ HG H' g' | .error e => v' = some (.int 0) ∧ FLh H H' e)) := by
  refine MtH.of [some (.ref 13), some (.ref 27)] pl_X5 rfl rfl ?_
  refine g_aload_n d_X5_readInto_0 rfl ?_
  refine h_V0P d_X5_readInto_1 cl_5_19 (p5_clear hg) (sp_hall hall_27) (by decide) rfl (Nat.le_of_ble_eq_true rfl) (by decide) ?_
  intro w8 H8 hp8
  obtain ⟨rfl, f8, g8⟩ := hp8
  have fq : FrH H (hset H8 13 4 0) := fun x y a b => (hs_ne (by omega)).trans (f8 x y b)
  have cb9 : CB b L (hset H8 13 4 0) := ⟨by rw [hs_b (by decide), f8 _ _ (by omega)]; exact cb.1, cb.2.1, fun k hk => ⟨by rw [hs_j (by decide), f8 _ _ (by omega)]; exact (cb.2.2 k hk).1, (cb.2.2 k hk).2⟩⟩
  have hg9 : HG (hset H8 13 4 0) (clrS g) := fun j y hj => (hs_j (by omega)).trans (g8 j y hj)
  refine g_aload_n d_X5_readInto_4 rfl ?_
  refine g_iconst d_X5_readInto_5 ik_0 ?_
  refine h_putI d_X5_readInto_6 fl_5_24 sp_Tape rfl ?_
  refine g_aload_n d_X5_readInto_9 rfl ?_
  refine h_V0P d_X5_readInto_10 cl_5_27 (m5_toNext (p := 0) cb9 (Nat.zero_le _) hs_at) sp_Tape (by decide) rfl (Nat.le_of_ble_eq_true rfl) (by decide) ?_
  intro w9 H9 hp9
  obtain ⟨rfl, f9, c9⟩ := hp9
  have fa : FrH H H9 := fq.tr f9.h
  refine g_aload_n d_X5_readInto_13 rfl ?_
  refine g_aload_n d_X5_readInto_14 rfl ?_
  refine h_V1P d_X5_readInto_15 cl_5_30 (m5_readLaw c9 (hg9.fr f9)) sp_Tape (by decide) rfl (Nat.le_of_ble_eq_true rfl) (by decide) ?_
  intro w1 H1 hp1
  cases hq1 : pLaw b L 0 with
  | error e =>
    rw [hq1] at hp1
    obtain ⟨rfl, hF⟩ := hp1
    have hr : pAll b L g = .error e := by
      unfold pAll
      rw [hq1]
      try dsimp only
    rw [hr]
    refine g_if_eq d_X5_readInto_18 (fun c18 => ?_) (fun c18 => absurd rfl c18)
    refine g_iconst d_X5_readInto_41 ik_0 ?_
    refine h_zret d_X5_readInto_42 rfl rfl ?_
    exact ⟨rfl, fa.fl hF⟩
  | ok r1 =>
    obtain ⟨v1, q1⟩ := r1
    rw [hq1] at hp1
    obtain ⟨rfl, f1, c1, hg1⟩ := hp1
    have clr2 : hset (clrS g) 0 0 (nI v1) 0 2 = nI 0 := rfl
    have clr3 : hset (clrS g) 0 0 (nI v1) 0 3 = nI 0 := rfl
    refine g_if_eq d_X5_readInto_18 (fun c18 => absurd c18 (by decide)) (fun c18 => ?_)
    refine g_aload_n d_X5_readInto_21 rfl ?_
    refine g_aload_n d_X5_readInto_22 rfl ?_
    refine h_V1P d_X5_readInto_23 cl_5_34 (m5_readMachines c1 hg1 clr2) sp_Tape (by decide) rfl (Nat.le_of_ble_eq_true rfl) (by decide) ?_
    intro w2 H2 hp2
    cases hq2 : pMs b L 6 0 q1 (hset (clrS g) 0 0 (nI v1)) with
    | error e =>
      rw [hq2] at hp2
      obtain ⟨rfl, hF⟩ := hp2
      have hr : pAll b L g = .error e := by
        unfold pAll
        rw [hq1]
        try dsimp only
        rw [hq2]
        try dsimp only
      rw [hr]
      refine g_if_eq d_X5_readInto_26 (fun c26 => ?_) (fun c26 => absurd rfl c26)
      refine g_iconst d_X5_readInto_41 ik_0 ?_
      refine h_zret d_X5_readInto_42 rfl rfl ?_
      exact ⟨rfl, (fa.tr f1).fl hF⟩
    | ok r2 =>
      obtain ⟨M, q2, g2⟩ := r2
      rw [hq2] at hp2
      obtain ⟨rfl, f2, c2, hg2, h03⟩ := hp2
      refine g_if_eq d_X5_readInto_26 (fun c26 => absurd c26 (by decide)) (fun c26 => ?_)
      refine g_aload_n d_X5_readInto_29 rfl ?_
      refine g_aload_n d_X5_readInto_30 rfl ?_
      refine h_V1P d_X5_readInto_31 cl_5_37 (m5_readLoads c2 hg2 (h03.trans clr3)) sp_Tape (by decide) rfl (Nat.le_of_ble_eq_true rfl) (by decide) ?_
      intro w3 H3 hp3
      cases hq3 : pLs b L 7 0 q2 g2 with
      | error e =>
        rw [hq3] at hp3
        obtain ⟨rfl, hF⟩ := hp3
        have hr : pAll b L g = .error e := by
          unfold pAll
          rw [hq1]
          try dsimp only
          rw [hq2]
          try dsimp only
          rw [hq3]
          try dsimp only
        rw [hr]
        refine g_if_eq d_X5_readInto_34 (fun c34 => ?_) (fun c34 => absurd rfl c34)
        refine g_iconst d_X5_readInto_41 ik_0 ?_
        refine h_zret d_X5_readInto_42 rfl rfl ?_
        exact ⟨rfl, ((fa.tr f1).tr f2).fl hF⟩
      | ok r3 =>
        obtain ⟨N, g3⟩ := r3
        rw [hq3] at hp3
        obtain ⟨rfl, f3, hg3⟩ := hp3
        have hr : pAll b L g = .ok (M, N, g3) := by
          unfold pAll
          rw [hq1]
          try dsimp only
          rw [hq2]
          try dsimp only
          rw [hq3]
          try dsimp only
        rw [hr]
        refine g_if_eq d_X5_readInto_34 (fun c34 => absurd c34 (by decide)) (fun c34 => ?_)
        refine g_iconst d_X5_readInto_37 ik_1 ?_
        refine g_goto d_X5_readInto_38 ?_
        refine h_zret d_X5_readInto_42 rfl rfl ?_
        exact ⟨rfl, ((fa.tr f1).tr f2).tr f3, hg3⟩

/-! THE TAPE: the reference's tokens -/
def RB (b : Nat → Nat) (L : Nat) (w : Hv) : Prop := w 0 6 = nI L ∧ L ≤ 110 ∧ ∀ k, k < L → w 4 k = nI (b k) ∧ b k < 256
def tk7 (c : Nat) : Nat := if c = 257 then 0 else if c = 256 then 2 else if c = 258 then 4 else if 97 ≤ c ∧ c ≤ 122 then 1 else if c = 44 ∨ c = 59 then 3 else 4
def RS (b : Nat → Nat) (L : Nat) (w : Hv) (p : Nat) : Prop := RB b L w ∧ p ≤ L ∧ w 0 8 = nI p ∧ w 0 7 = nI (tkQ b L p) ∧ w 0 9 = nI (tk7 (tkC b L p)) ∧ (tkC b L p = 256 → w 0 10 = nI (tkV b L p)) ∧ (tkC b L p < 256 → w 0 10 = nI (tkC b L p))
def FrW (w w' : Hv) : Prop := ∀ x y, ¬ (x = 0 ∧ 7 ≤ y ∧ y ≤ 10) → w' x y = w x y
def FX (w w' : Hv) (e : Nat × Nat) : Prop := (∀ x y, ¬ (x = 0 ∧ 7 ≤ y ∧ y ≤ 12) → w' x y = w x y) ∧ w' 0 11 = nI e.1 ∧ w' 0 12 = nI e.2 ∧ 0 < e.1 ∧ e.1 < 4
theorem FrW.rf {w : Hv} : FrW w w := fun _ _ _ => rfl
theorem FrW.tr {w w' w'' : Hv} (a : FrW w w') (b : FrW w' w'') : FrW w w'' := fun x y h => (b x y h).trans (a x y h)
theorem FrW.set {w w' : Hv} {y : Nat} {v : Int32} (a : FrW w w') (hy : 7 ≤ y ∧ y ≤ 10) : FrW w (hset w' 0 y v) := fun x z h => (hs_ne (by omega)).trans (a x z h)
theorem RB.fr {b : Nat → Nat} {L : Nat} {w w' : Hv} (c : RB b L w) (f : FrW w w') : RB b L w' := ⟨(f 0 6 (by omega)).trans c.1, c.2.1, fun k hk => ⟨(f 4 k (by omega)).trans (c.2.2 k hk).1, (c.2.2 k hk).2⟩⟩
theorem tk7_lt (c : Nat) : tk7 c < 5 := by
  unfold tk7
  repeat' split
  all_goals omega
theorem tk7_l {c d : Nat} (hd : 97 ≤ d ∧ d ≤ 122) (hc : c < 259) : (tk7 c = 1 ∧ c = d) ↔ c = d := by
  constructor
  · exact fun z => z.2
  · intro z
    subst z
    refine ⟨?_, rfl⟩
    unfold tk7
    rw [if_neg (by omega), if_neg (by omega), if_neg (by omega), if_pos hd]
theorem tk7_1 {c : Nat} : tk7 c = 1 ↔ 97 ≤ c ∧ c ≤ 122 := by
  unfold tk7
  constructor
  · intro h
    repeat' split at h
    all_goals first | omega | assumption
  · intro h
    rw [if_neg (by omega), if_neg (by omega), if_neg (by omega), if_pos h]
theorem tk7_3 {c : Nat} : tk7 c = 3 ↔ (c = 44 ∨ c = 59) := by
  unfold tk7
  constructor
  · intro h
    repeat' split at h
    all_goals first | omega | assumption
  · intro h
    rw [if_neg (by omega), if_neg (by omega), if_neg (by omega), if_neg (by omega), if_pos h]
theorem tk7_2 {c : Nat} : tk7 c = 2 ↔ c = 256 := by
  unfold tk7
  constructor
  · intro h
    repeat' split at h
    all_goals first | omega | assumption
  · intro h
    rw [if_neg (by omega), if_pos h]
theorem tk7_0 {c : Nat} : tk7 c = 0 ↔ c = 257 := by
  unfold tk7
  constructor
  · intro h
    repeat' split at h
    all_goals first | omega | assumption
  · intro h
    rw [if_pos h]
def rvJ (b : Nat → Nat) (p : Nat) : Nat → Nat
  | 0 => 0
  | j + 1 => if 999 < rvJ b p j then rvJ b p j else 10 * rvJ b p j + (b (p + j) - 48)
theorem rv_nu {b : Nat → Nat} {p : Nat} (hd : isD (b p)) : ∀ j, j ≤ 2 → rvJ b p j = nuJ b p j
  | 0, _ => rfl
  | 1, _ => by
    have e : rvJ b p 1 = 10 * 0 + (b (p + 0) - 48) := if_neg (show ¬ 999 < 0 by decide)
    rw [e]
    show _ = 0 * 10 + (b (p + 0) - 48)
    omega
  | 2, _ => by
    have h1 := rv_nu (b := b) (p := p) hd 1 (by omega)
    rw [rvJ, nuJ, h1]
    have : nuJ b p 1 = b p - 48 := by
      show 0 * 10 + (b (p + 0) - 48) = _
      rw [Nat.add_zero]; omega
    rw [this, if_neg (by omega)]
    omega
theorem m7_letterAt {b : Nat → Nat} {L : Nat} {h w : Hv} (rb : RB b L w) {p : Nat} (hp : p < 2 ^ 30) {x : Int32} (ex : x = nI p) : MtF M_X7_letterAt 0 [.ref 360, .int x] (mu h w) (some (.int (if p < L then nI (b p) else -1))) (mu h w) := by
  subst ex
  have hL := rb.2.1
  refine MtF.of [some (.ref 360), some (.int (nI p))] pl_X7 rfl rfl ?_
  refine g_iload_n d_X7_letterAt_0 rfl ?_
  refine g_aload_n d_X7_letterAt_1 rfl ?_
  refine mm_getV (v := nI L) d_X7_letterAt_2 fl_7_89 sp_M rfl (rb.1) ?_
  refine g_icmp_ge d_X7_letterAt_5 (fun c5 => ?_) (fun c5 => ?_)
  · refine g_iconst d_X7_letterAt_17 ik_m1 ?_
    refine h_iret d_X7_letterAt_18 rfl ?_
    first | exact pF (by rw [if_pos hlt]) rfl | exact pF (by rw [if_neg (fun z => nI_ge (a := p) (b := L) z (by omega) c5)]) rfl
  · have hlt : p < L := by rcases Nat.lt_or_ge p L with z | z; exact z; exact absurd (nI_le (a := L) (b := p) z (by omega)) c5
    refine g_aload_n d_X7_letterAt_8 rfl ?_
    refine h_getR d_X7_letterAt_9 fl_7_19 sp_M rfl ?_
    refine g_iload_n d_X7_letterAt_12 rfl ?_
    refine mm_aldV (k := p) (v := nI (b p)) d_X7_letterAt_13 (j := 4) sp_m_tape rfl (by decide) rfl (by omega) (by decide) ((rb.2.2 p hlt).1) ?_
    refine g_goto d_X7_letterAt_14 ?_
    refine h_iret d_X7_letterAt_18 rfl ?_
    first | exact pF (by rw [if_pos hlt]) rfl | exact pF (by rw [if_neg (fun z => nI_ge (a := p) (b := L) z (by omega) c5)]) rfl
theorem la_D {b : Nat → Nat} {L : Nat} {w : Hv} (rb : RB b L w) {p : Nat} : (¬ (if p < L then nI (b p) else -1) < 48 ∧ ¬ 57 < (if p < L then nI (b p) else -1)) ↔ (p < L ∧ isD (b p)) := by
  have t48 : (48 : Int32).toInt = 48 := by decide
  have t57 : (57 : Int32).toInt = 57 := by decide
  by_cases h : p < L
  · have e : (nI (b p)).toInt = b p := nI_toInt (by have := (rb.2.2 p h).2; omega)
    rw [if_pos h]
    simp only [Int32.lt_iff_toInt_lt, e, t48, t57]
    omega
  · rw [if_neg h]
    exact ⟨fun z => absurd z (by decide), fun z => absurd z.1 h⟩
theorem lp_adv {b : Nat → Nat} {L p : Nat} {h w : Hv} (rb0 : RB b L w) (hp : p < L) (hD : isD (b p)) {v1 : Int32} : ∀ (f j : Nat) (w1 : Hv), p + j + f = L → edF b L f (p + j) = edF b L (L - p) p → FrW w w1 → w1 0 8 = nI p → w1 0 7 = nI (p + j) → w1 0 10 = nI (rvJ b p j) → rvJ b p j ≤ 9999 → GdH M_X7_advances 1 50 [some (.ref 360), some (.int v1)] [] (mu h w1) (fun v' h' => v' = none ∧ ∃ w', h' = mu h w' ∧ FrW w w' ∧ RS b L w' p) := by
  have hL := rb0.2.1
  have hC := tkC_256 (b := b) (L := L) (p := p) (by omega) hD
  have hQ := tkQ_D (b := b) (L := L) (p := p) (by omega) hD
  have fin : ∀ (j : Nat) (w1 : Hv), p + j = edF b L (L - p) p → p + j ≤ L → FrW w w1 → w1 0 8 = nI p → w1 0 7 = nI (p + j) → w1 0 10 = nI (rvJ b p j) → GdH M_X7_advances 1 121 [some (.ref 360), some (.int v1)] [] (mu h w1) (fun v' h' => v' = none ∧ ∃ w', h' = mu h w' ∧ FrW w w' ∧ RS b L w' p) := by
    intro j w1 hj hjl hf h8 h7 h10
    rw [← hj, Nat.add_sub_cancel_left] at hC
    refine g_aload_n d_X7_advances_121 rfl ?_
    refine g_aload_n d_X7_advances_122 rfl ?_
    refine mm_getV (v := nI (p + j)) d_X7_advances_123 fl_7_93 sp_M rfl (h7) ?_
    refine g_aload_n d_X7_advances_126 rfl ?_
    refine mm_getV (v := nI p) d_X7_advances_127 fl_7_96 sp_M rfl (h8) ?_
    refine g_isub d_X7_advances_130 ?_
    rw [show nI (p + j) - nI p = nI j by rw [pk_sub (by omega), Nat.add_sub_cancel_left]]
    refine g_iconst d_X7_advances_131 ik_2 ?_
    refine g_icmp_le d_X7_advances_132 (fun c132 => ?_) (fun c132 => ?_)
    · refine g_iconst d_X7_advances_139 ik_2 ?_
      refine mm_putI d_X7_advances_140 fl_7_105 sp_M rfl ?_
      refine g_goto d_X7_advances_143 ?_
      refine h_vret d_X7_advances_192 rfl ?_
      first
        | (have h2 : ¬ 2 < j := fun z => nI_ge (a := 2) (b := j) z (by omega) c132
           rw [if_neg h2] at hC
           refine ⟨rfl, _, rfl, hf.set (by omega), rb0.fr (hf.set (by omega)), by omega, (hs_b (by decide)).trans h8, (hs_b (by decide)).trans (by rw [h7, hQ, hj]), ?_, fun _ => (hs_b (by decide)).trans ?_, fun z => by rw [hC] at z; omega⟩
           · rw [hs_at, hC]; rfl
           · rw [h10, rv_nu hD j (by omega)]; unfold tkV; rw [hQ, ← hj, Nat.add_sub_cancel_left])
        | (have h2 : 2 < j := by rcases Nat.lt_or_ge 2 j with z | z; exact z; exact absurd (nI_le (a := j) (b := 2) z (by decide)) c132
           rw [if_pos h2] at hC
           refine ⟨rfl, _, rfl, hf.set (by omega), rb0.fr (hf.set (by omega)), by omega, (hs_b (by decide)).trans h8, (hs_b (by decide)).trans (by rw [h7, hQ, hj]), ?_, fun z => by rw [hC] at z; exact absurd z (by decide), fun z => by rw [hC] at z; omega⟩
           rw [hs_at, hC]; rfl)
    · refine g_iconst d_X7_advances_135 ik_4 ?_
      refine g_goto d_X7_advances_136 ?_
      refine mm_putI d_X7_advances_140 fl_7_105 sp_M rfl ?_
      refine g_goto d_X7_advances_143 ?_
      refine h_vret d_X7_advances_192 rfl ?_
      first
        | (have h2 : ¬ 2 < j := fun z => nI_ge (a := 2) (b := j) z (by omega) c132
           rw [if_neg h2] at hC
           refine ⟨rfl, _, rfl, hf.set (by omega), rb0.fr (hf.set (by omega)), by omega, (hs_b (by decide)).trans h8, (hs_b (by decide)).trans (by rw [h7, hQ, hj]), ?_, fun _ => (hs_b (by decide)).trans ?_, fun z => by rw [hC] at z; omega⟩
           · rw [hs_at, hC]; rfl
           · rw [h10, rv_nu hD j (by omega)]; unfold tkV; rw [hQ, ← hj, Nat.add_sub_cancel_left])
        | (have h2 : 2 < j := by rcases Nat.lt_or_ge 2 j with z | z; exact z; exact absurd (nI_le (a := j) (b := 2) z (by decide)) c132
           rw [if_pos h2] at hC
           refine ⟨rfl, _, rfl, hf.set (by omega), rb0.fr (hf.set (by omega)), by omega, (hs_b (by decide)).trans h8, (hs_b (by decide)).trans (by rw [h7, hQ, hj]), ?_, fun z => by rw [hC] at z; exact absurd z (by decide), fun z => by rw [hC] at z; omega⟩
           rw [hs_at, hC]; rfl)
  intro f
  induction f with
  | zero =>
    intro j w1 hj he hf h8 h7 h10 hr
    have rb := rb0.fr hf
    rw [edF] at he
    refine g_aload_n d_X7_advances_50 rfl ?_
    refine g_aload_n d_X7_advances_51 rfl ?_
    refine mm_getV (v := nI (p + j)) d_X7_advances_52 fl_7_93 sp_M rfl (h7) ?_
    refine h_V1i d_X7_advances_55 cl_7_99 (m7_letterAt rb (p := p + j) (by omega) rfl) sp_M (by decide) rfl (Nat.le_of_ble_eq_true rfl) (by decide) ?_
    refine g_bipush d_X7_advances_58 bk_48 ?_
    refine g_bipush d_X7_advances_60 bk_57 ?_
    refine h_S3i d_X7_advances_62 cl_7_70 m7_in (Nat.le_of_ble_eq_true rfl) (by decide) ?_
    refine g_if_eq d_X7_advances_65 (fun c65 => ?_) (fun c65 => absurd (b2i_f (fun z => by have := ((la_D rb).mp z).1; omega)) c65)
    exact fin j w1 he (by omega) hf h8 h7 h10
  | succ f ih =>
    intro j w1 hj he hf h8 h7 h10 hr
    have rb := rb0.fr hf
    rw [edF] at he
    have hbp := rb.2.2 (p + j) (by omega)
    refine g_aload_n d_X7_advances_50 rfl ?_
    refine g_aload_n d_X7_advances_51 rfl ?_
    refine mm_getV (v := nI (p + j)) d_X7_advances_52 fl_7_93 sp_M rfl (h7) ?_
    refine h_V1i d_X7_advances_55 cl_7_99 (m7_letterAt rb (p := p + j) (by omega) rfl) sp_M (by decide) rfl (Nat.le_of_ble_eq_true rfl) (by decide) ?_
    refine g_bipush d_X7_advances_58 bk_48 ?_
    refine g_bipush d_X7_advances_60 bk_57 ?_
    refine h_S3i d_X7_advances_62 cl_7_70 m7_in (Nat.le_of_ble_eq_true rfl) (by decide) ?_
    refine g_if_eq d_X7_advances_65 (fun c65 => ?_) (fun c65 => ?_)
    · rw [if_neg (fun z => b2i_eq0.mp c65 ((la_D rb).mpr z))] at he
      exact fin j w1 he (by omega) hf h8 h7 h10
    · refine g_aload_n d_X7_advances_68 rfl ?_
      refine g_aload_n d_X7_advances_69 rfl ?_
      refine mm_getV (v := nI (rvJ b p j)) d_X7_advances_70 fl_7_102 sp_M rfl (h10) ?_
      refine g_sipush d_X7_advances_73 sk_999 ?_
      refine g_icmp_le d_X7_advances_76 (fun c76 => ?_) (fun c76 => ?_)
      · refine g_bipush d_X7_advances_86 bk_10 ?_
        refine g_aload_n d_X7_advances_88 rfl ?_
        refine mm_getV (v := nI (rvJ b p j)) d_X7_advances_89 fl_7_102 sp_M rfl (h10) ?_
        refine g_imul d_X7_advances_92 ?_
        refine g_aload_n d_X7_advances_93 rfl ?_
        refine g_aload_n d_X7_advances_94 rfl ?_
        refine mm_getV (v := nI (p + j)) d_X7_advances_95 fl_7_93 sp_M rfl (h7) ?_
        refine h_V1i d_X7_advances_98 cl_7_99 (m7_letterAt rb (p := p + j) (by omega) rfl) sp_M (by decide) rfl (Nat.le_of_ble_eq_true rfl) (by decide) ?_
        rw [if_pos (show p + j < L by omega)]
        refine g_iadd d_X7_advances_101 ?_
        refine g_bipush d_X7_advances_102 bk_48 ?_
        refine g_isub d_X7_advances_104 ?_
        refine mm_putI d_X7_advances_105 fl_7_102 sp_M rfl ?_
        refine g_aload_n d_X7_advances_108 rfl ?_
        refine g_dup d_X7_advances_109 rfl ?_
        refine mm_getV (v := nI (p + j)) d_X7_advances_110 fl_7_93 sp_M rfl ((hs_b (by decide)).trans h7) ?_
        refine g_iconst d_X7_advances_113 ik_1 ?_
        refine g_iadd d_X7_advances_114 ?_
        refine mm_putI d_X7_advances_115 fl_7_93 sp_M rfl ?_
        refine g_goto d_X7_advances_118 ?_
        have hd := (la_D rb).mp (b2i_ne0.mp c65)
        rw [if_pos hd] at he
        have hcap : ¬ 999 < rvJ b p j := fun z => nI_ge (a := 999) (b := rvJ b p j) z (by omega) c76
        have en : 10 * nI (rvJ b p j) + nI (b (p + j)) - 48 = nI (rvJ b p (j + 1)) := by
          rw [show (10 : Int32) * nI (rvJ b p j) = nI (10 * rvJ b p j) from nMul (a := 10) rfl rfl, nI_add, show (48 : Int32) = nI 48 from rfl, pk_sub (by omega), rvJ, if_neg hcap]
          congr 1
          omega
        have hr2 : rvJ b p (j + 1) ≤ 9999 := by rw [rvJ, if_neg hcap]; omega
        rw [en, nI_1]
        exact ih (j + 1) _ (by omega) (by rw [← Nat.add_assoc]; exact he) ((hf.set (by omega)).set (by omega)) (by rw [hs_b (by decide), hs_b (by decide)]; exact h8) (by rw [hs_at, Nat.add_assoc]) (by rw [hs_b (by decide), hs_at]) hr2
      · refine g_aload_n d_X7_advances_79 rfl ?_
        refine mm_getV (v := nI (rvJ b p j)) d_X7_advances_80 fl_7_102 sp_M rfl (h10) ?_
        refine g_goto d_X7_advances_83 ?_
        refine mm_putI d_X7_advances_105 fl_7_102 sp_M rfl ?_
        refine g_aload_n d_X7_advances_108 rfl ?_
        refine g_dup d_X7_advances_109 rfl ?_
        refine mm_getV (v := nI (p + j)) d_X7_advances_110 fl_7_93 sp_M rfl ((hs_b (by decide)).trans h7) ?_
        refine g_iconst d_X7_advances_113 ik_1 ?_
        refine g_iadd d_X7_advances_114 ?_
        refine mm_putI d_X7_advances_115 fl_7_93 sp_M rfl ?_
        refine g_goto d_X7_advances_118 ?_
        have hd := (la_D rb).mp (b2i_ne0.mp c65)
        rw [if_pos hd] at he
        have hcap : 999 < rvJ b p j := by rcases Nat.lt_or_ge 999 (rvJ b p j) with z | z; exact z; exact absurd (nI_le (a := rvJ b p j) (b := 999) z (by decide)) c76
        have hr1 : rvJ b p (j + 1) = rvJ b p j := by rw [rvJ, if_pos hcap]
        have hr2 : rvJ b p (j + 1) ≤ 9999 := by rw [hr1]; exact hr
        rw [nI_1, ← hr1]
        exact ih (j + 1) _ (by omega) (by rw [← Nat.add_assoc]; exact he) ((hf.set (by omega)).set (by omega)) (by rw [hs_b (by decide), hs_b (by decide)]; exact h8) (by rw [hs_at, Nat.add_assoc]) (by rw [hs_b (by decide), hs_at]) hr2
theorem m7_advances {b : Nat → Nat} {L : Nat} {h w : Hv} (rb : RB b L w) {p : Nat} (hp : p ≤ L) (h7 : w 0 7 = nI p) : MtH M_X7_advances 1 [.ref 360] (mu h w) ((fun v' h' => v' = none ∧ ∃ w', h' = mu h w' ∧ FrW w w' ∧ RS b L w' p)) := by
  have hL := rb.2.1
  have f1 : FrW w (hset w 0 8 (nI p)) := FrW.rf.set (by omega)
  have rb1 := rb.fr f1
  have f2 : ∀ {v : Int32}, FrW w (hset (hset w 0 8 (nI p)) 0 10 v) := f1.set (by omega)
  refine MtH.of [some (.ref 360), none] pl_X7 rfl rfl ?_
  refine g_aload_n d_X7_advances_0 rfl ?_
  refine g_aload_n d_X7_advances_1 rfl ?_
  refine mm_getV (v := nI p) d_X7_advances_2 fl_7_93 sp_M rfl (h7) ?_
  refine mm_putI d_X7_advances_5 fl_7_96 sp_M rfl ?_
  refine g_aload_n d_X7_advances_8 rfl ?_
  refine g_aload_n d_X7_advances_9 rfl ?_
  refine mm_getV (v := nI p) d_X7_advances_10 fl_7_93 sp_M rfl ((hs_b (by decide)).trans h7) ?_
  refine h_V1i d_X7_advances_13 cl_7_99 (m7_letterAt rb1 (p := p) (by omega) rfl) sp_M (by decide) rfl (Nat.le_of_ble_eq_true rfl) (by decide) ?_
  refine w_istore_n (L' := [_, _]) d_X7_advances_16 rfl rfl rfl ?_
  refine g_aload_n d_X7_advances_17 rfl ?_
  refine g_iload_n d_X7_advances_18 rfl ?_
  refine mm_putI d_X7_advances_19 fl_7_102 sp_M rfl ?_
  refine g_iload_n d_X7_advances_22 rfl ?_
  refine g_if_ge d_X7_advances_23 (fun c23 => ?_) (fun c23 => ?_)
  · have hlt : p < L := by rcases Nat.lt_or_ge p L with z | z; exact z; rw [if_neg (by omega)] at c23; exact absurd c23 (by decide)
    rw [if_pos hlt]
    have hbp := rb.2.2 p hlt
    refine g_iload_n d_X7_advances_34 rfl ?_
    refine g_bipush d_X7_advances_35 bk_48 ?_
    refine g_bipush d_X7_advances_37 bk_57 ?_
    refine h_S3i d_X7_advances_39 cl_7_70 m7_in (Nat.le_of_ble_eq_true rfl) (by decide) ?_
    refine g_if_eq d_X7_advances_42 (fun c42 => ?_) (fun c42 => ?_)
    · refine g_aload_n d_X7_advances_146 rfl ?_
      refine g_dup d_X7_advances_147 rfl ?_
      refine mm_getV (v := nI p) d_X7_advances_148 fl_7_93 sp_M rfl ((hs_b (by decide)).trans ((hs_b (by decide)).trans h7)) ?_
      refine g_iconst d_X7_advances_151 ik_1 ?_
      refine g_iadd d_X7_advances_152 ?_
      refine mm_putI d_X7_advances_153 fl_7_93 sp_M rfl ?_
      rw [nI_1]
      refine g_aload_n d_X7_advances_156 rfl ?_
      refine g_iload_n d_X7_advances_157 rfl ?_
      refine g_bipush d_X7_advances_158 bk_97 ?_
      refine g_bipush d_X7_advances_160 bk_122 ?_
      refine h_S3i d_X7_advances_162 cl_7_70 m7_in (Nat.le_of_ble_eq_true rfl) (by decide) ?_
      refine g_if_eq d_X7_advances_165 (fun c165 => ?_) (fun c165 => ?_)
      · refine g_iload_n d_X7_advances_172 rfl ?_
        refine g_bipush d_X7_advances_173 bk_44 ?_
        refine g_icmp_eq d_X7_advances_175 (fun c175 => ?_) (fun c175 => ?_)
        · refine g_iconst d_X7_advances_184 ik_3 ?_
          refine g_goto d_X7_advances_185 ?_
          refine mm_putI d_X7_advances_189 fl_7_105 sp_M rfl ?_
          refine h_vret d_X7_advances_192 rfl ?_
          have hD : ¬ isD (b p) := fun z => b2i_eq0.mp c42 (by have q := (la_D rb (p := p)).mpr ⟨hlt, z⟩; rw [if_pos hlt] at q; exact q)
          have hC : tkC b L p = b p := by unfold tkC; rw [if_neg (by omega), if_neg hD]
          have hQ : tkQ b L p = p + 1 := by unfold tkQ; rw [if_neg (by omega), if_neg hD]
          refine ⟨rfl, _, rfl, (f2.set (by omega)).set (by omega), rb.fr ((f2.set (by omega)).set (by omega)), hp, ?_, ?_, ?_, fun z => by rw [hC] at z; omega, fun z => ?_⟩
          · rw [hs_b (by decide), hs_b (by decide), hs_b (by decide), hs_at]
          · rw [hs_b (by decide), hs_at, hQ]
          · rw [hs_at, hC]
            have y := nI_inj (b := 44) c175 (by omega) (by decide)
            rw [tk7_3.mpr (Or.inl y)]; rfl
          · rw [hs_b (by decide), hs_b (by decide), hs_at, hC]
        · refine g_iload_n d_X7_advances_178 rfl ?_
          refine g_bipush d_X7_advances_179 bk_59 ?_
          refine g_icmp_ne d_X7_advances_181 (fun c181 => ?_) (fun c181 => ?_)
          · refine g_iconst d_X7_advances_188 ik_4 ?_
            refine mm_putI d_X7_advances_189 fl_7_105 sp_M rfl ?_
            refine h_vret d_X7_advances_192 rfl ?_
            have hD : ¬ isD (b p) := fun z => b2i_eq0.mp c42 (by have q := (la_D rb (p := p)).mpr ⟨hlt, z⟩; rw [if_pos hlt] at q; exact q)
            have hC : tkC b L p = b p := by unfold tkC; rw [if_neg (by omega), if_neg hD]
            have hQ : tkQ b L p = p + 1 := by unfold tkQ; rw [if_neg (by omega), if_neg hD]
            refine ⟨rfl, _, rfl, (f2.set (by omega)).set (by omega), rb.fr ((f2.set (by omega)).set (by omega)), hp, ?_, ?_, ?_, fun z => by rw [hC] at z; omega, fun z => ?_⟩
            · rw [hs_b (by decide), hs_b (by decide), hs_b (by decide), hs_at]
            · rw [hs_b (by decide), hs_at, hQ]
            · rw [hs_at, hC]
              have ebp : (nI (b p)).toInt = b p := nI_toInt (by omega)
              have t97 : (97 : Int32).toInt = 97 := by decide
              have t122 : (122 : Int32).toInt = 122 := by decide
              have z := b2i_eq0.mp c165
              simp only [Int32.lt_iff_toInt_lt, ebp, t97, t122] at z
              have y1 : b p ≠ 44 := fun y => c175 (by rw [y]; rfl)
              have y2 : b p ≠ 59 := fun y => c181 (by rw [y]; rfl)
              unfold tk7
              rw [if_neg (by omega), if_neg (by omega), if_neg (by omega), if_neg (by omega), if_neg (by omega)]; rfl
            · rw [hs_b (by decide), hs_b (by decide), hs_at, hC]
          · refine g_iconst d_X7_advances_184 ik_3 ?_
            refine g_goto d_X7_advances_185 ?_
            refine mm_putI d_X7_advances_189 fl_7_105 sp_M rfl ?_
            refine h_vret d_X7_advances_192 rfl ?_
            have hD : ¬ isD (b p) := fun z => b2i_eq0.mp c42 (by have q := (la_D rb (p := p)).mpr ⟨hlt, z⟩; rw [if_pos hlt] at q; exact q)
            have hC : tkC b L p = b p := by unfold tkC; rw [if_neg (by omega), if_neg hD]
            have hQ : tkQ b L p = p + 1 := by unfold tkQ; rw [if_neg (by omega), if_neg hD]
            refine ⟨rfl, _, rfl, (f2.set (by omega)).set (by omega), rb.fr ((f2.set (by omega)).set (by omega)), hp, ?_, ?_, ?_, fun z => by rw [hC] at z; omega, fun z => ?_⟩
            · rw [hs_b (by decide), hs_b (by decide), hs_b (by decide), hs_at]
            · rw [hs_b (by decide), hs_at, hQ]
            · rw [hs_at, hC]
              have y := nI_inj (b := 59) c181 (by omega) (by decide)
              rw [tk7_3.mpr (Or.inr y)]; rfl
            · rw [hs_b (by decide), hs_b (by decide), hs_at, hC]
      · refine g_iconst d_X7_advances_168 ik_1 ?_
        refine g_goto d_X7_advances_169 ?_
        refine mm_putI d_X7_advances_189 fl_7_105 sp_M rfl ?_
        refine h_vret d_X7_advances_192 rfl ?_
        have hD : ¬ isD (b p) := fun z => b2i_eq0.mp c42 (by have q := (la_D rb (p := p)).mpr ⟨hlt, z⟩; rw [if_pos hlt] at q; exact q)
        have hC : tkC b L p = b p := by unfold tkC; rw [if_neg (by omega), if_neg hD]
        have hQ : tkQ b L p = p + 1 := by unfold tkQ; rw [if_neg (by omega), if_neg hD]
        refine ⟨rfl, _, rfl, (f2.set (by omega)).set (by omega), rb.fr ((f2.set (by omega)).set (by omega)), hp, ?_, ?_, ?_, fun z => by rw [hC] at z; omega, fun z => ?_⟩
        · rw [hs_b (by decide), hs_b (by decide), hs_b (by decide), hs_at]
        · rw [hs_b (by decide), hs_at, hQ]
        · rw [hs_at, hC]
          have ebp : (nI (b p)).toInt = b p := nI_toInt (by omega)
          have t97 : (97 : Int32).toInt = 97 := by decide
          have t122 : (122 : Int32).toInt = 122 := by decide
          have z := b2i_ne0.mp c165
          simp only [Int32.lt_iff_toInt_lt, ebp, t97, t122] at z
          rw [(tk7_1 (c := b p)).mpr (by omega)]; rfl
        · rw [hs_b (by decide), hs_b (by decide), hs_at, hC]
    · refine g_aload_n d_X7_advances_45 rfl ?_
      refine g_iconst d_X7_advances_46 ik_0 ?_
      refine mm_putI d_X7_advances_47 fl_7_102 sp_M rfl ?_
      have hD : isD (b p) := ((la_D rb (p := p)).mp (by rw [if_pos hlt]; exact b2i_ne0.mp c42)).2
      exact lp_adv rb hlt hD (L - p) 0 _ (by omega) rfl (f2.set (by omega)) (by rw [hs_b (by decide), hs_b (by decide), hs_at]) (by rw [hs_b (by decide), hs_b (by decide), hs_b (by decide)]; exact h7) hs_at (by rw [rvJ]; omega)
  · have hle : L ≤ p := by rcases Nat.lt_or_ge p L with z | z; rw [if_pos z] at c23; exact absurd (nI_pos' (by have := (rb.2.2 p z).2; omega)) c23; exact z
    refine g_aload_n d_X7_advances_26 rfl ?_
    refine g_iconst d_X7_advances_27 ik_0 ?_
    refine mm_putI d_X7_advances_28 fl_7_105 sp_M rfl ?_
    refine g_goto d_X7_advances_31 ?_
    refine h_vret d_X7_advances_192 rfl ?_
    have hC : tkC b L p = 257 := if_pos hle
    have hQ : tkQ b L p = p := if_pos hle
    refine ⟨rfl, _, rfl, f2.set (by omega), rb.fr (f2.set (by omega)), hp, ?_, ?_, ?_, fun z => by rw [hC] at z; omega, fun z => by rw [hC] at z; omega⟩
    · rw [hs_b (by decide), hs_b (by decide), hs_at]
    · rw [hs_b (by decide), hs_b (by decide), hs_b (by decide), h7, hQ]
    · rw [hs_at, hC]; rfl

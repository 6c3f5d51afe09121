/-! THE TAPE: tokens, and the class's reading -/
abbrev isD (c : Nat) : Prop := 48 ≤ c ∧ c ≤ 57
def edF (b : Nat → Nat) (L : Nat) : Nat → Nat → Nat
  | 0, p => p
  | f + 1, p => if p < L ∧ isD (b p) then edF b L f (p + 1) else p
theorem edF_le {b : Nat → Nat} {L : Nat} : ∀ f p, p ≤ L → edF b L f p ≤ L ∧ p ≤ edF b L f p
  | 0, p, h => ⟨h, Nat.le_refl p⟩
  | f + 1, p, h => by
    rw [edF]
    split
    · rename_i z
      have q := edF_le (b := b) (L := L) f (p + 1) (by omega)
      exact ⟨q.1, by omega⟩
    · exact ⟨h, Nat.le_refl p⟩
def tkQ (b : Nat → Nat) (L p : Nat) : Nat := if L ≤ p then p else if isD (b p) then edF b L (L - p) p else p + 1
def nuJ (b : Nat → Nat) (p : Nat) : Nat → Nat
  | 0 => 0
  | j + 1 => nuJ b p j * 10 + (b (p + j) - 48)
def tkV (b : Nat → Nat) (L p : Nat) : Nat := nuJ b p (tkQ b L p - p)
def tkC (b : Nat → Nat) (L p : Nat) : Nat := if L ≤ p then 257 else if isD (b p) then (if 2 < tkQ b L p - p then 258 else 256) else b p
theorem tkQ_le {b : Nat → Nat} {L p : Nat} (h : p ≤ L) : tkQ b L p ≤ L := by
  unfold tkQ
  split
  · exact h
  · split
    · exact (edF_le _ _ h).1
    · omega
theorem tkV_le {b : Nat → Nat} {L p : Nat} (h : tkC b L p = 256) (hb : ∀ k, k < L → b k < 256) : tkV b L p ≤ 99 := by
  unfold tkC at h
  split at h
  · omega
  · rename_i h0
    split at h
    · rename_i hd
      split at h
      · omega
      · rename_i hq
        have hq2 : tkQ b L p = edF b L (L - p) p := by
          unfold tkQ
          rw [if_neg h0, if_pos hd]
        unfold tkV
        generalize hz : tkQ b L p - p = z at hq ⊢
        have hz2 : z = 0 ∨ z = 1 ∨ z = 2 := by omega
        rcases hz2 with rfl | rfl | rfl
        · exact Nat.zero_le _
        · show 0 * 10 + (b (p + 0) - 48) ≤ 99
          rw [Nat.add_zero]; omega
        · show (0 * 10 + (b (p + 0) - 48)) * 10 + (b (p + 1) - 48) ≤ 99
          have h1 : isD (b (p + 1)) := by
            rw [hq2] at hz
            obtain ⟨f, hf⟩ : ∃ f, L - p = f + 1 := ⟨L - p - 1, by omega⟩
            rw [hf, edF, if_pos ⟨by omega, hd⟩] at hz
            cases f with
            | zero => rw [edF] at hz; omega
            | succ f =>
              rw [edF] at hz
              split at hz
              · rename_i y; exact y.2
              · omega
          rw [Nat.add_zero]
          omega
    · rename_i hd
      have := hb p (by omega)
      omega
/-- the class's tape holds the bytes -/
def CB (b : Nat → Nat) (L : Nat) (H : Hv) : Prop := H 13 1 = nI L ∧ L ≤ 110 ∧ ∀ k, k < L → H 14 k = nI (b k) ∧ b k < 256
def CS (b : Nat → Nat) (L : Nat) (H : Hv) (p : Nat) : Prop := CB b L H ∧ p ≤ L ∧ H 13 3 = nI p ∧ H 13 4 = nI (tkQ b L p) ∧ H 13 2 = nI (tkC b L p) ∧ (tkC b L p = 256 → H 13 5 = nI (tkV b L p))
def FrT (H H' : Hv) : Prop := ∀ x y, ¬ (x = 13 ∧ 2 ≤ y ∧ y ≤ 5) → H' x y = H x y
def FLt (H H' : Hv) (e : Nat × Nat) : Prop := (∀ x y, ¬ (x = 13 ∧ 2 ≤ y ∧ y ≤ 6) → H' x y = H x y) ∧ H' 13 6 = nI e.1 ∧ H' 13 3 = nI e.2
theorem FrT.rf {H : Hv} : FrT H H := fun _ _ _ => rfl
theorem FrT.tr {H H' H'' : Hv} (a : FrT H H') (b : FrT H' H'') : FrT H H'' := fun x y h => (b x y h).trans (a x y h)
theorem FrT.set {H H' : Hv} {y : Nat} {v : Int32} (a : FrT H H') (hy : 2 ≤ y ∧ y ≤ 5) : FrT H (hset H' 13 y v) := fun x z h => (hs_ne (by omega)).trans (a x z h)
theorem CB.fr {b : Nat → Nat} {L : Nat} {H H' : Hv} (c : CB b L H) (f : FrT H H') : CB b L H' := ⟨(f 13 1 (by omega)).trans c.1, c.2.1, fun k hk => ⟨(f 14 k (by omega)).trans (c.2.2 k hk).1, (c.2.2 k hk).2⟩⟩
theorem tkC_lt {b : Nat → Nat} {L p : Nat} (hb : ∀ k, k < L → b k < 256) : tkC b L p < 259 := by
  unfold tkC
  split
  · omega
  · split
    · split <;> omega
    · have := hb p (by omega)
      omega
theorem tkC_256 {b : Nat → Nat} {L p : Nat} (h1 : ¬ L ≤ p) (h2 : isD (b p)) : tkC b L p = if 2 < edF b L (L - p) p - p then 258 else 256 := by
  unfold tkC tkQ
  rw [if_neg h1, if_pos h2, if_neg h1, if_pos h2]
theorem tkQ_D {b : Nat → Nat} {L p : Nat} (h1 : ¬ L ≤ p) (h2 : isD (b p)) : tkQ b L p = edF b L (L - p) p := by
  unfold tkQ
  rw [if_neg h1, if_pos h2]
theorem m5_isFigure {b : Nat → Nat} {L : Nat} {H : Hv} (cb : CB b L H) {x : Int32} {p : Nat} (ex : x = nI p) (hp : p < L) : MtF M_X5_isFigure 0 [.ref 13, .int x] (H) (some (.int (b2i (isD (b p))))) (H) := by
  subst ex
  obtain ⟨e1, e2⟩ := cb.2.2 p hp
  have hL := cb.2.1
  have eb : (nI (b p)).toInt = b p := nI_toInt (by omega)
  have t48 : (48 : Int32).toInt = 48 := by decide
  have t57 : (57 : Int32).toInt = 57 := by decide
  refine MtF.of [some (.ref 13), some (.int (nI p))] pl_X5 rfl rfl ?_
  refine g_aload_n d_X5_isFigure_0 rfl ?_
  refine h_getR d_X5_isFigure_1 fl_5_11 sp_Tape rfl ?_
  refine g_iload_n d_X5_isFigure_4 rfl ?_
  refine h_aldV (k := p) (v := nI (b p)) d_X5_isFigure_5 sp_bytes rfl (by omega) (by decide) (e1) ?_
  refine g_bipush d_X5_isFigure_6 bk_48 ?_
  refine g_icmp_lt d_X5_isFigure_8 (fun c8 => ?_) (fun c8 => ?_)
  · refine g_iconst d_X5_isFigure_26 ik_0 ?_
    refine h_zret d_X5_isFigure_27 rfl rfl ?_
    refine pF ?_ rfl
    simp only [Int32.lt_iff_toInt_lt, eb, t48, t57] at *
    first | (rw [b2i_t (by omega)]; done) | (rw [b2i_f (by omega)]; done)
  · refine g_aload_n d_X5_isFigure_11 rfl ?_
    refine h_getR d_X5_isFigure_12 fl_5_11 sp_Tape rfl ?_
    refine g_iload_n d_X5_isFigure_15 rfl ?_
    refine h_aldV (k := p) (v := nI (b p)) d_X5_isFigure_16 sp_bytes rfl (by omega) (by decide) (e1) ?_
    refine g_bipush d_X5_isFigure_17 bk_57 ?_
    refine g_icmp_gt d_X5_isFigure_19 (fun c19 => ?_) (fun c19 => ?_)
    · refine g_iconst d_X5_isFigure_26 ik_0 ?_
      refine h_zret d_X5_isFigure_27 rfl rfl ?_
      refine pF ?_ rfl
      simp only [Int32.lt_iff_toInt_lt, eb, t48, t57] at *
      first | (rw [b2i_t (by omega)]; done) | (rw [b2i_f (by omega)]; done)
    · refine g_iconst d_X5_isFigure_22 ik_1 ?_
      refine g_goto d_X5_isFigure_23 ?_
      refine h_zret d_X5_isFigure_27 rfl rfl ?_
      refine pF ?_ rfl
      simp only [Int32.lt_iff_toInt_lt, eb, t48, t57] at *
      first | (rw [b2i_t (by omega)]; done) | (rw [b2i_f (by omega)]; done)
theorem lp_fig5 {b : Nat → Nat} {L p Q : Nat} {H0 : Hv} (cb0 : CB b L H0) (hQ : edF b L (L - p) p = Q) (hp : p ≤ L) : ∀ (f j : Nat) (H : Hv), p + j + f = L → edF b L f (p + j) = Q → FrT H0 H → H 13 3 = nI p → H 13 4 = nI (p + j) → H 13 5 = nI (nuJ b p j) → GdH M_X5_readFigures 1 5 [some (.ref 13)] [] H (fun v' H' => v' = none ∧ FrT H0 H' ∧ H' 13 3 = nI p ∧ H' 13 4 = nI Q ∧ H' 13 5 = nI (nuJ b p (Q - p)) ∧ H' 13 2 = nI (if 2 < Q - p then 258 else 256)) := by
  have hL := cb0.2.1
  have fin : ∀ (j : Nat) (H : Hv), p + j = Q → p + j ≤ L → FrT H0 H → H 13 3 = nI p → H 13 4 = nI (p + j) → H 13 5 = nI (nuJ b p j) → GdH M_X5_readFigures 1 64 [some (.ref 13)] [] H (fun v' H' => v' = none ∧ FrT H0 H' ∧ H' 13 3 = nI p ∧ H' 13 4 = nI Q ∧ H' 13 5 = nI (nuJ b p (Q - p)) ∧ H' 13 2 = nI (if 2 < Q - p then 258 else 256)) := by
    intro j H hj hjl hf h3 h4 h5
    have ej : Q - p = j := by omega
    refine g_aload_n d_X5_readFigures_64 rfl ?_
    refine g_aload_n d_X5_readFigures_65 rfl ?_
    refine h_getV (v := nI (p + j)) d_X5_readFigures_66 fl_5_24 sp_Tape rfl (h4) ?_
    refine g_aload_n d_X5_readFigures_69 rfl ?_
    refine h_getV (v := nI p) d_X5_readFigures_70 fl_5_91 sp_Tape rfl (h3) ?_
    refine g_isub d_X5_readFigures_73 ?_
    rw [show nI (p + j) - nI p = nI j by rw [pk_sub (by omega), Nat.add_sub_cancel_left]]
    refine g_iconst d_X5_readFigures_74 ik_2 ?_
    refine g_icmp_le d_X5_readFigures_75 (fun c75 => ?_) (fun c75 => ?_)
    · refine g_sipush d_X5_readFigures_84 sk_256 ?_
      refine h_putI d_X5_readFigures_87 fl_5_55 sp_Tape rfl ?_
      refine h_vret d_X5_readFigures_90 rfl ?_
      refine ⟨rfl, hf.set (by omega), (hs_b (by decide)).trans h3, (hs_b (by decide)).trans (by rw [h4, hj]), (hs_b (by decide)).trans (by rw [h5, ej]), ?_⟩
      rw [hs_at, ej]
      first
        | (rw [if_neg (fun z => nI_ge (a := 2) (b := j) z (by omega) c75)]; rfl)
        | (rw [if_pos (by rcases Nat.lt_or_ge 2 j with z | z; exact z; exact absurd (nI_le (a := j) (b := 2) z (by decide)) c75)]; rfl)
    · refine g_sipush d_X5_readFigures_78 sk_258 ?_
      refine g_goto d_X5_readFigures_81 ?_
      refine h_putI d_X5_readFigures_87 fl_5_55 sp_Tape rfl ?_
      refine h_vret d_X5_readFigures_90 rfl ?_
      refine ⟨rfl, hf.set (by omega), (hs_b (by decide)).trans h3, (hs_b (by decide)).trans (by rw [h4, hj]), (hs_b (by decide)).trans (by rw [h5, ej]), ?_⟩
      rw [hs_at, ej]
      first
        | (rw [if_neg (fun z => nI_ge (a := 2) (b := j) z (by omega) c75)]; rfl)
        | (rw [if_pos (by rcases Nat.lt_or_ge 2 j with z | z; exact z; exact absurd (nI_le (a := j) (b := 2) z (by decide)) c75)]; rfl)
  intro f
  induction f with
  | zero =>
    intro j H hj he hf h3 h4 h5
    have cb := cb0.fr hf
    rw [edF] at he
    refine g_aload_n d_X5_readFigures_5 rfl ?_
    refine h_getV (v := nI (p + j)) d_X5_readFigures_6 fl_5_24 sp_Tape rfl (h4) ?_
    refine g_aload_n d_X5_readFigures_9 rfl ?_
    refine h_getV (v := nI L) d_X5_readFigures_10 fl_5_15 sp_Tape rfl (cb.1) ?_
    refine g_icmp_ge d_X5_readFigures_13 (fun c13 => ?_) (fun c13 => absurd (nI_le (a := L) (b := p + j) (by omega) (by omega)) c13)
    exact fin j H he (by omega) hf h3 h4 h5
  | succ f ih =>
    intro j H hj he hf h3 h4 h5
    have cb := cb0.fr hf
    rw [edF] at he
    have hbp := cb.2.2 (p + j) (by omega)
    refine g_aload_n d_X5_readFigures_5 rfl ?_
    refine h_getV (v := nI (p + j)) d_X5_readFigures_6 fl_5_24 sp_Tape rfl (h4) ?_
    refine g_aload_n d_X5_readFigures_9 rfl ?_
    refine h_getV (v := nI L) d_X5_readFigures_10 fl_5_15 sp_Tape rfl (cb.1) ?_
    refine g_icmp_ge d_X5_readFigures_13 (fun c13 => absurd c13 (nI_ge (a := p + j) (b := L) (by omega) (by omega))) (fun c13 => ?_)
    refine g_aload_n d_X5_readFigures_16 rfl ?_
    refine g_aload_n d_X5_readFigures_17 rfl ?_
    refine h_getV (v := nI (p + j)) d_X5_readFigures_18 fl_5_24 sp_Tape rfl (h4) ?_
    refine h_V1i d_X5_readFigures_21 cl_5_94 (m5_isFigure cb rfl (by omega)) sp_Tape (by decide) rfl (Nat.le_of_ble_eq_true rfl) (by decide) ?_
    refine g_if_eq d_X5_readFigures_24 (fun c24 => ?_) (fun c24 => ?_)
    · rw [if_neg (fun z => b2i_eq0.mp c24 z.2)] at he
      exact fin j H he (by omega) hf h3 h4 h5
    · refine g_aload_n d_X5_readFigures_27 rfl ?_
      refine g_aload_n d_X5_readFigures_28 rfl ?_
      refine h_getV (v := nI (nuJ b p j)) d_X5_readFigures_29 fl_5_88 sp_Tape rfl (h5) ?_
      refine g_bipush d_X5_readFigures_32 bk_10 ?_
      refine g_imul d_X5_readFigures_34 ?_
      refine g_aload_n d_X5_readFigures_35 rfl ?_
      refine h_getR d_X5_readFigures_36 fl_5_11 sp_Tape rfl ?_
      refine g_aload_n d_X5_readFigures_39 rfl ?_
      refine h_getV (v := nI (p + j)) d_X5_readFigures_40 fl_5_24 sp_Tape rfl (h4) ?_
      refine h_aldV (k := (p + j)) (v := nI (b (p + j))) d_X5_readFigures_43 sp_bytes rfl (by omega) (by decide) (hbp.1) ?_
      refine g_iadd d_X5_readFigures_44 ?_
      refine g_bipush d_X5_readFigures_45 bk_48 ?_
      refine g_isub d_X5_readFigures_47 ?_
      refine h_putI d_X5_readFigures_48 fl_5_88 sp_Tape rfl ?_
      refine g_aload_n d_X5_readFigures_51 rfl ?_
      refine g_dup d_X5_readFigures_52 rfl ?_
      refine h_getV (v := nI (p + j)) d_X5_readFigures_53 fl_5_24 sp_Tape rfl ((hs_b (by decide)).trans h4) ?_
      refine g_iconst d_X5_readFigures_56 ik_1 ?_
      refine g_iadd d_X5_readFigures_57 ?_
      refine h_putI d_X5_readFigures_58 fl_5_24 sp_Tape rfl ?_
      refine g_goto d_X5_readFigures_61 ?_
      have hd := b2i_ne0.mp c24
      rw [if_pos ⟨by omega, hd⟩] at he
      have en : nI (nuJ b p j) * 10 + nI (b (p + j)) - 48 = nI (nuJ b p (j + 1)) := by
        rw [show nI (nuJ b p j) * 10 = nI (nuJ b p j * 10) from nMul rfl rfl, nI_add, show (48 : Int32) = nI 48 from rfl, pk_sub (by omega), nuJ]
        congr 1
        omega
      rw [en, nI_1]
      exact ih (j + 1) _ (by omega) (by rw [← Nat.add_assoc]; exact he) ((hf.set (by omega)).set (by omega)) (by rw [hs_b (by decide), hs_b (by decide)]; exact h3) (by rw [hs_at, Nat.add_assoc]) (by rw [hs_b (by decide), hs_at])
theorem m5_readFigures {b : Nat → Nat} {L p Q : Nat} {H0 : Hv} (cb : CB b L H0) (hQ : edF b L (L - p) p = Q) (hp : p ≤ L) (h3 : H0 13 3 = nI p) (h4 : H0 13 4 = nI p) : MtH M_X5_readFigures 1 [.ref 13] (H0) ((fun v' H' => v' = none ∧ FrT H0 H' ∧ H' 13 3 = nI p ∧ H' 13 4 = nI Q ∧ H' 13 5 = nI (nuJ b p (Q - p)) ∧ H' 13 2 = nI (if 2 < Q - p then 258 else 256))) := by
  refine MtH.of [some (.ref 13)] pl_X5 rfl rfl ?_
  refine g_aload_n d_X5_readFigures_0 rfl ?_
  refine g_iconst d_X5_readFigures_1 ik_0 ?_
  refine h_putI d_X5_readFigures_2 fl_5_88 sp_Tape rfl ?_
  exact lp_fig5 cb hQ hp (L - p) 0 _ (by omega) hQ (FrT.rf.set (by omega)) ((hs_b (by decide)).trans h3) ((hs_b (by decide)).trans h4) hs_at
theorem m5_toNext {b : Nat → Nat} {L : Nat} {H : Hv} (cb : CB b L H) {p : Nat} (hp : p ≤ L) (h4 : H 13 4 = nI p) : MtH M_X5_toNextToken 2 [.ref 13] (H) ((fun v' H' => v' = none ∧ FrT H H' ∧ CS b L H' p)) := by
  have hL := cb.2.1
  have f1 : FrT H (hset H 13 3 (nI p)) := FrT.rf.set (by omega)
  have cb1 := cb.fr f1
  refine MtH.of [some (.ref 13)] pl_X5 rfl rfl ?_
  refine g_aload_n d_X5_toNextToken_0 rfl ?_
  refine g_aload_n d_X5_toNextToken_1 rfl ?_
  refine h_getV (v := nI p) d_X5_toNextToken_2 fl_5_24 sp_Tape rfl (h4) ?_
  refine h_putI d_X5_toNextToken_5 fl_5_91 sp_Tape rfl ?_
  refine g_aload_n d_X5_toNextToken_8 rfl ?_
  refine h_getV (v := nI p) d_X5_toNextToken_9 fl_5_91 sp_Tape rfl (hs_at) ?_
  refine g_aload_n d_X5_toNextToken_12 rfl ?_
  refine h_getV (v := nI L) d_X5_toNextToken_13 fl_5_15 sp_Tape rfl (cb1.1) ?_
  refine g_icmp_lt d_X5_toNextToken_16 (fun c16 => ?_) (fun c16 => ?_)
  · have hlt : p < L := by rcases Nat.lt_or_ge p L with z | z; exact z; exact absurd c16 (nI_nlt (a := p) (b := L) z (by omega))
    have hbp := cb1.2.2 p hlt
    refine g_aload_n d_X5_toNextToken_29 rfl ?_
    refine g_aload_n d_X5_toNextToken_30 rfl ?_
    refine h_getV (v := nI p) d_X5_toNextToken_31 fl_5_91 sp_Tape rfl (hs_at) ?_
    refine h_V1i d_X5_toNextToken_34 cl_5_94 (m5_isFigure cb1 rfl hlt) sp_Tape (by decide) rfl (Nat.le_of_ble_eq_true rfl) (by decide) ?_
    refine g_if_eq d_X5_toNextToken_37 (fun c37 => ?_) (fun c37 => ?_)
    · refine g_aload_n d_X5_toNextToken_47 rfl ?_
      refine g_aload_n d_X5_toNextToken_48 rfl ?_
      refine h_getR d_X5_toNextToken_49 fl_5_11 sp_Tape rfl ?_
      refine g_aload_n d_X5_toNextToken_52 rfl ?_
      refine h_getV (v := nI p) d_X5_toNextToken_53 fl_5_91 sp_Tape rfl (hs_at) ?_
      refine h_aldV (k := p) (v := nI (b p)) d_X5_toNextToken_56 sp_bytes rfl (by omega) (by decide) (hbp.1) ?_
      refine h_putI d_X5_toNextToken_57 fl_5_55 sp_Tape rfl ?_
      refine g_aload_n d_X5_toNextToken_60 rfl ?_
      refine g_aload_n d_X5_toNextToken_61 rfl ?_
      refine h_getV (v := nI p) d_X5_toNextToken_62 fl_5_91 sp_Tape rfl ((hs_b (by decide)).trans hs_at) ?_
      refine g_iconst d_X5_toNextToken_65 ik_1 ?_
      refine g_iadd d_X5_toNextToken_66 ?_
      rw [nI_1]
      refine h_putI d_X5_toNextToken_67 fl_5_24 sp_Tape rfl ?_
      refine h_vret d_X5_toNextToken_70 rfl ?_
      have hD : ¬ isD (b p) := b2i_eq0.mp c37
      have hC : tkC b L p = b p := by unfold tkC; rw [if_neg (by omega), if_neg hD]
      have hQ : tkQ b L p = p + 1 := by unfold tkQ; rw [if_neg (by omega), if_neg hD]
      refine ⟨rfl, (f1.set (by omega)).set (by omega), cb1.fr ((FrT.rf.set (by omega)).set (by omega)), hp, ?_, ?_, ?_, fun z => ?_⟩
      · rw [hs_b (by decide), hs_b (by decide), hs_at]
      · rw [hs_at, hQ]
      · rw [hs_b (by decide), hs_at, hC]
      · rw [hC] at z; have := hbp.2; omega
    · refine g_aload_n d_X5_toNextToken_40 rfl ?_
      refine h_V0P d_X5_toNextToken_41 cl_5_97 (m5_readFigures cb1 rfl hp hs_at ((hs_b (by decide)).trans h4)) sp_Tape (by decide) rfl (Nat.le_of_ble_eq_true rfl) (by decide) ?_
      intro v' H' hq
      obtain ⟨rfl, f2, g3, g4, g5, g2⟩ := hq
      refine g_goto d_X5_toNextToken_44 ?_
      refine h_vret d_X5_toNextToken_70 rfl ?_
      have hD : isD (b p) := b2i_ne0.mp c37
      have hC := tkC_256 (b := b) (L := L) (p := p) (by omega) hD
      have hQ := tkQ_D (b := b) (L := L) (p := p) (by omega) hD
      refine ⟨rfl, f1.tr f2, cb1.fr f2, hp, g3, by rw [g4, hQ], by rw [g2, hC], fun z => ?_⟩
      rw [g5]
      unfold tkV
      rw [hQ]
  · refine g_aload_n d_X5_toNextToken_19 rfl ?_
    refine g_sipush d_X5_toNextToken_20 sk_257 ?_
    refine h_putI d_X5_toNextToken_23 fl_5_55 sp_Tape rfl ?_
    refine g_goto d_X5_toNextToken_26 ?_
    refine h_vret d_X5_toNextToken_70 rfl ?_
    have hle : L ≤ p := by rcases Nat.lt_or_ge p L with z | z; exact absurd ((nI_ltI (a := p) (b := L) (by omega) (by omega)).mpr z) c16; exact z
    have hC : tkC b L p = 257 := if_pos hle
    have hQ : tkQ b L p = p := if_pos hle
    refine ⟨rfl, f1.set (by omega), cb1.fr (FrT.rf.set (by omega)), hp, (hs_b (by decide)).trans hs_at, ?_, ?_, fun z => ?_⟩
    · rw [hs_b (by decide), hs_b (by decide), h4, hQ]
    · rw [hs_at, hC]; rfl
    · rw [hC] at z; exact absurd z (by decide)
/-! what the reading asks of the tokens -/
def pPass (b : Nat → Nat) (L c p : Nat) : Except (Nat × Nat) Nat := if tkC b L p = c then .ok (tkQ b L p) else .error (1, p)
def pNum (b : Nat → Nat) (L lo hi p : Nat) : Except (Nat × Nat) (Nat × Nat) := if tkC b L p = 256 then (if lo ≤ tkV b L p ∧ tkV b L p ≤ hi then .ok (tkV b L p, tkQ b L p) else .error (2, p)) else .error (1, p)
def kindN (c : Nat) : Nat := if c = 119 then 1 else if c = 113 then 2 else if c = 103 then 3 else if c = 100 then 4 else if c = 115 then 5 else 0
theorem m5_failed {H : Hv} {v : Int32} : MtF M_X5_failed 0 [.ref 13, .int v] (H) (some (.int 0)) (hset H 13 6 v) := by
  refine MtF.of [some (.ref 13), some (.int v)] pl_X5 rfl rfl ?_
  refine g_aload_n d_X5_failed_0 rfl ?_
  refine g_iload_n d_X5_failed_1 rfl ?_
  refine h_putI d_X5_failed_2 fl_5_85 sp_Tape rfl ?_
  refine g_iconst d_X5_failed_5 ik_0 ?_
  refine h_zret d_X5_failed_6 rfl rfl ?_
  exact ⟨rfl, rfl⟩
theorem m5_passes {b : Nat → Nat} {L p : Nat} {H : Hv} (cs : CS b L H p) {c : Nat} (hc : c < 256) : MtH M_X5_passes 3 [.ref 13, .int (nI c)] H (fun v' H' => match pPass b L c p with | .ok q => v' = some (.int 1) ∧ FrT H H' ∧ CS b L H' q | .error e => v' = some (.int 0) ∧ FLt H H' e) := by
  have hb9 : ∀ k, k < L → b k < 256 := fun k hk => (cs.1.2.2 k hk).2
  have hC := tkC_lt (p := p) hb9
  refine MtH.of [some (.ref 13), some (.int (nI c))] pl_X5 rfl rfl ?_
  by_cases hq : tkC b L p = c
  · rw [show pPass b L c p = .ok (tkQ b L p) from if_pos hq]
    refine g_aload_n d_X5_passes_0 rfl ?_
    refine h_getV (v := nI (tkC b L p)) d_X5_passes_1 fl_5_55 sp_Tape rfl (cs.2.2.2.2.1) ?_
    refine g_iload_n d_X5_passes_4 rfl ?_
    refine g_icmp_eq d_X5_passes_5 (fun c5 => ?_) (fun c5 => absurd (show nI (tkC b L p) = nI c by rw [hq]) c5)
    refine g_aload_n d_X5_passes_14 rfl ?_
    refine h_V0P d_X5_passes_15 cl_5_27 (m5_toNext cs.1 (tkQ_le cs.2.1) cs.2.2.2.1) sp_Tape (by decide) rfl (Nat.le_of_ble_eq_true rfl) (by decide) ?_
    intro v' H' hp
    obtain ⟨rfl, f1, c1⟩ := hp
    refine g_iconst d_X5_passes_18 ik_1 ?_
    refine h_zret d_X5_passes_19 rfl rfl ?_
    exact ⟨rfl, f1, c1⟩
  · rw [show pPass b L c p = .error (1, p) from if_neg hq]
    refine g_aload_n d_X5_passes_0 rfl ?_
    refine h_getV (v := nI (tkC b L p)) d_X5_passes_1 fl_5_55 sp_Tape rfl (cs.2.2.2.2.1) ?_
    refine g_iload_n d_X5_passes_4 rfl ?_
    refine g_icmp_eq d_X5_passes_5 (fun c5 => absurd c5 (fun z => hq (nI_inj z (by omega) (by omega)))) (fun c5 => ?_)
    refine g_aload_n d_X5_passes_8 rfl ?_
    refine g_iconst d_X5_passes_9 ik_1 ?_
    refine h_V1i d_X5_passes_10 cl_5_62 m5_failed sp_Tape (by decide) rfl (Nat.le_of_ble_eq_true rfl) (by decide) ?_
    refine h_zret d_X5_passes_13 rfl rfl ?_
    exact ⟨rfl, ⟨fun x y h => hs_ne (by omega), hs_at, (hs_b (by decide)).trans cs.2.2.1⟩⟩
theorem m5_isNumber {b : Nat → Nat} {L p : Nat} {H : Hv} (cs : CS b L H p) {lo hi : Nat} (hlo : lo < 100) (hhi : hi < 100) : MtH M_X5_isNumber 1 [.ref 13, .int (nI lo), .int (nI hi)] H (fun v' H' => match pNum b L lo hi p with | .ok _ => v' = some (.int 1) ∧ H' = H | .error e => v' = some (.int 0) ∧ FLt H H' e) := by
  have hb9 : ∀ k, k < L → b k < 256 := fun k hk => (cs.1.2.2 k hk).2
  have hC := tkC_lt (p := p) hb9
  refine MtH.of [some (.ref 13), some (.int (nI lo)), some (.int (nI hi))] pl_X5 rfl rfl ?_
  by_cases hq : tkC b L p = 256
  · have hV := tkV_le hq hb9
    have eV : (nI (tkV b L p)).toInt = tkV b L p := nI_toInt (by omega)
    have elo : (nI lo).toInt = lo := nI_toInt (by omega)
    have ehi : (nI hi).toInt = hi := nI_toInt (by omega)
    by_cases hr : lo ≤ tkV b L p ∧ tkV b L p ≤ hi
    · rw [show pNum b L lo hi p = .ok (tkV b L p, tkQ b L p) from (if_pos hq).trans (if_pos hr)]
      refine g_aload_n d_X5_isNumber_0 rfl ?_
      refine h_getV (v := nI (tkC b L p)) d_X5_isNumber_1 fl_5_55 sp_Tape rfl (cs.2.2.2.2.1) ?_
      refine g_sipush d_X5_isNumber_4 sk_256 ?_
      refine g_icmp_eq d_X5_isNumber_7 (fun c7 => ?_) (fun c7 => absurd (show nI (tkC b L p) = 256 by rw [hq]; rfl) c7)
      refine g_aload_n d_X5_isNumber_16 rfl ?_
      refine h_getV (v := nI (tkV b L p)) d_X5_isNumber_17 fl_5_88 sp_Tape rfl (cs.2.2.2.2.2 hq) ?_
      refine g_iload_n d_X5_isNumber_20 rfl ?_
      refine g_icmp_lt d_X5_isNumber_21 (fun c21 => ?_) (fun c21 => ?_)
      · exfalso
        simp only [Int32.lt_iff_toInt_lt, Int32.le_iff_toInt_le, eV, elo, ehi] at *
        omega
      · refine g_aload_n d_X5_isNumber_24 rfl ?_
        refine h_getV (v := nI (tkV b L p)) d_X5_isNumber_25 fl_5_88 sp_Tape rfl (cs.2.2.2.2.2 hq) ?_
        refine g_iload_n d_X5_isNumber_28 rfl ?_
        refine g_icmp_le d_X5_isNumber_29 (fun c29 => ?_) (fun c29 => ?_)
        · refine g_iconst d_X5_isNumber_40 ik_1 ?_
          refine g_goto d_X5_isNumber_41 ?_
          refine h_zret d_X5_isNumber_45 rfl rfl ?_
          exact ⟨rfl, rfl⟩
        · exfalso
          simp only [Int32.lt_iff_toInt_lt, Int32.le_iff_toInt_le, eV, elo, ehi] at *
          omega
    · rw [show pNum b L lo hi p = .error (2, p) from (if_pos hq).trans (if_neg hr)]
      refine g_aload_n d_X5_isNumber_0 rfl ?_
      refine h_getV (v := nI (tkC b L p)) d_X5_isNumber_1 fl_5_55 sp_Tape rfl (cs.2.2.2.2.1) ?_
      refine g_sipush d_X5_isNumber_4 sk_256 ?_
      refine g_icmp_eq d_X5_isNumber_7 (fun c7 => ?_) (fun c7 => absurd (show nI (tkC b L p) = 256 by rw [hq]; rfl) c7)
      refine g_aload_n d_X5_isNumber_16 rfl ?_
      refine h_getV (v := nI (tkV b L p)) d_X5_isNumber_17 fl_5_88 sp_Tape rfl (cs.2.2.2.2.2 hq) ?_
      refine g_iload_n d_X5_isNumber_20 rfl ?_
      refine g_icmp_lt d_X5_isNumber_21 (fun c21 => ?_) (fun c21 => ?_)
      · refine g_aload_n d_X5_isNumber_32 rfl ?_
        refine g_iconst d_X5_isNumber_33 ik_2 ?_
        refine h_V1i d_X5_isNumber_34 cl_5_62 m5_failed sp_Tape (by decide) rfl (Nat.le_of_ble_eq_true rfl) (by decide) ?_
        refine g_if_eq d_X5_isNumber_37 (fun c37 => ?_) (fun c37 => absurd rfl c37)
        refine g_iconst d_X5_isNumber_44 ik_0 ?_
        refine h_zret d_X5_isNumber_45 rfl rfl ?_
        exact ⟨rfl, ⟨fun x y h => hs_ne (by omega), hs_at, (hs_b (by decide)).trans cs.2.2.1⟩⟩
      · refine g_aload_n d_X5_isNumber_24 rfl ?_
        refine h_getV (v := nI (tkV b L p)) d_X5_isNumber_25 fl_5_88 sp_Tape rfl (cs.2.2.2.2.2 hq) ?_
        refine g_iload_n d_X5_isNumber_28 rfl ?_
        refine g_icmp_le d_X5_isNumber_29 (fun c29 => ?_) (fun c29 => ?_)
        · exfalso
          simp only [Int32.lt_iff_toInt_lt, Int32.le_iff_toInt_le, eV, elo, ehi] at *
          omega
        · refine g_aload_n d_X5_isNumber_32 rfl ?_
          refine g_iconst d_X5_isNumber_33 ik_2 ?_
          refine h_V1i d_X5_isNumber_34 cl_5_62 m5_failed sp_Tape (by decide) rfl (Nat.le_of_ble_eq_true rfl) (by decide) ?_
          refine g_if_eq d_X5_isNumber_37 (fun c37 => ?_) (fun c37 => absurd rfl c37)
          refine g_iconst d_X5_isNumber_44 ik_0 ?_
          refine h_zret d_X5_isNumber_45 rfl rfl ?_
          exact ⟨rfl, ⟨fun x y h => hs_ne (by omega), hs_at, (hs_b (by decide)).trans cs.2.2.1⟩⟩
  · rw [show pNum b L lo hi p = .error (1, p) from if_neg hq]
    refine g_aload_n d_X5_isNumber_0 rfl ?_
    refine h_getV (v := nI (tkC b L p)) d_X5_isNumber_1 fl_5_55 sp_Tape rfl (cs.2.2.2.2.1) ?_
    refine g_sipush d_X5_isNumber_4 sk_256 ?_
    refine g_icmp_eq d_X5_isNumber_7 (fun c7 => absurd c7 (fun z => hq (nI_inj (b := 256) z (by omega) (by omega)))) (fun c7 => ?_)
    refine g_aload_n d_X5_isNumber_10 rfl ?_
    refine g_iconst d_X5_isNumber_11 ik_1 ?_
    refine h_V1i d_X5_isNumber_12 cl_5_62 m5_failed sp_Tape (by decide) rfl (Nat.le_of_ble_eq_true rfl) (by decide) ?_
    refine h_zret d_X5_isNumber_15 rfl rfl ?_
    exact ⟨rfl, ⟨fun x y h => hs_ne (by omega), hs_at, (hs_b (by decide)).trans cs.2.2.1⟩⟩
theorem m5_takeNumber {b : Nat → Nat} {L p : Nat} {H : Hv} (cs : CS b L H p) {lo hi v q : Nat} (hn : pNum b L lo hi p = .ok (v, q)) : MtH M_X5_takeNumber 3 [.ref 13] (H) ((fun v' H' => v' = some (.int (nI v)) ∧ FrT H H' ∧ CS b L H' q)) := by
  have hq : tkC b L p = 256 := by
    unfold pNum at hn
    split at hn
    · assumption
    · cases hn
  have hvq : tkV b L p = v ∧ tkQ b L p = q := by
    unfold pNum at hn
    rw [if_pos hq] at hn
    split at hn
    · cases hn; exact ⟨rfl, rfl⟩
    · cases hn
  refine MtH.of [some (.ref 13), none] pl_X5 rfl rfl ?_
  refine g_aload_n d_X5_takeNumber_0 rfl ?_
  refine h_getV (v := nI (tkV b L p)) d_X5_takeNumber_1 fl_5_88 sp_Tape rfl (cs.2.2.2.2.2 hq) ?_
  refine w_istore_n (L' := [_, _]) d_X5_takeNumber_4 rfl rfl rfl ?_
  refine g_aload_n d_X5_takeNumber_5 rfl ?_
  refine h_V0P d_X5_takeNumber_6 cl_5_27 (m5_toNext cs.1 (tkQ_le cs.2.1) cs.2.2.2.1) sp_Tape (by decide) rfl (Nat.le_of_ble_eq_true rfl) (by decide) ?_
  intro v' H' hp
  obtain ⟨rfl, f1, c1⟩ := hp
  refine g_iload_n d_X5_takeNumber_9 rfl ?_
  refine h_iret d_X5_takeNumber_10 rfl ?_
  exact ⟨by rw [hvq.1], f1, by rw [← hvq.2]; exact c1⟩

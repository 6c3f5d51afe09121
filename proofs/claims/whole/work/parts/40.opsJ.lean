/-! OPS: count, as -/
def tT (w : Hv) : Nat → Int32
  | 0 => 0
  | n + 1 => tT w n + (if 0 ≤ w 3 n then 1 else 0)
theorem lp_rowsThere {h w : Hv} {P : Option Value → Hv → Prop} (kx : GdH M_X7_rowsThere 0 33 [some (.ref 360), some (.int (tT w 8)), some (.int (nI 8))] [] (mu h w) P) : ∀ (n j : Nat), j + n = 8 → GdH M_X7_rowsThere 0 4 [some (.ref 360), some (.int (tT w j)), some (.int (nI j))] [] (mu h w) P := by
  intro n
  induction n with
  | zero =>
    intro j hj
    have hj' : j = 8 := by omega
    rw [hj']
    refine g_iload_n d_X7_rowsThere_4 rfl ?_
    refine g_bipush d_X7_rowsThere_5 bk_8 ?_
    refine g_icmp_ge d_X7_rowsThere_7 (fun c7 => ?_) (fun c7 => absurd (nI_le (a := 8) (b := 8) (Nat.le_refl _) (by omega)) c7)
    exact kx
  | succ n ih =>
    intro j hj
    refine g_iload_n d_X7_rowsThere_4 rfl ?_
    refine g_bipush d_X7_rowsThere_5 bk_8 ?_
    refine g_icmp_ge d_X7_rowsThere_7 (fun c7 => absurd c7 (nI_ge (a := j) (b := 8) (by omega) (by omega))) (fun c7 => ?_)
    refine g_iload_n d_X7_rowsThere_10 rfl ?_
    refine g_aload_n d_X7_rowsThere_11 rfl ?_
    refine h_getR d_X7_rowsThere_12 fl_7_16 sp_M rfl ?_
    refine g_iload_n d_X7_rowsThere_15 rfl ?_
    refine mm_aldE (k := j) d_X7_rowsThere_16 (j := 3) sp_m_rowSize rfl (by decide) rfl (by omega) (by decide) ?_
    refine g_if_ge d_X7_rowsThere_17 (fun c17 => ?_) (fun c17 => ?_)
    · refine g_iconst d_X7_rowsThere_24 ik_1 ?_
      refine g_iadd d_X7_rowsThere_25 ?_
      refine w_istore_n (L' := [_, _, _]) d_X7_rowsThere_26 rfl rfl rfl ?_
      refine w_iinc (L' := [_, _, _]) d_X7_rowsThere_27 ik_1 rfl rfl rfl rfl ?_
      refine g_goto d_X7_rowsThere_30 ?_
      have q := ih (j + 1) (by omega)
      first | rw [tT, if_pos c17] at q | rw [tT, if_neg c17] at q
      rw [nI_1]
      exact q
    · refine g_iconst d_X7_rowsThere_20 ik_0 ?_
      refine g_goto d_X7_rowsThere_21 ?_
      refine g_iadd d_X7_rowsThere_25 ?_
      refine w_istore_n (L' := [_, _, _]) d_X7_rowsThere_26 rfl rfl rfl ?_
      refine w_iinc (L' := [_, _, _]) d_X7_rowsThere_27 ik_1 rfl rfl rfl rfl ?_
      refine g_goto d_X7_rowsThere_30 ?_
      have q := ih (j + 1) (by omega)
      first | rw [tT, if_pos c17] at q | rw [tT, if_neg c17] at q
      rw [nI_1]
      exact q
theorem m7_rowsThere {h w : Hv} : MtF M_X7_rowsThere 0 [.ref 360] (mu h w) (some (.int (tT w 8))) (mu h w) := by
  refine MtF.of [some (.ref 360), none, none] pl_X7 rfl rfl ?_
  refine g_iconst d_X7_rowsThere_0 ik_0 ?_
  refine w_istore_n (L' := [_, _, _]) d_X7_rowsThere_1 rfl rfl rfl ?_
  refine g_iconst d_X7_rowsThere_2 ik_0 ?_
  refine w_istore_n (L' := [_, _, _]) d_X7_rowsThere_3 rfl rfl rfl ?_
  refine lp_rowsThere ?_ 8 0 rfl
  refine g_iload_n d_X7_rowsThere_33 rfl ?_
  refine h_iret d_X7_rowsThere_34 rfl ?_
  exact ⟨rfl, rfl⟩

/-! OPS: when -/
theorem tickS_1 {M N y : Nat} {g : Hv} : tickS g M N 1 y = g 1 y := by
  unfold tickS
  rw [hs_j (by decide), tk2_j (by decide) (by decide) (by decide), tk1_j (by decide) (by decide) (by decide) (by decide) (by decide)]
theorem tickN_1 {M N y : Nat} : ∀ (n : Nat) (g : Hv), tickN M N n g 1 y = g 1 y
  | 0, _ => rfl
  | n + 1, g => (tickN_1 n (tickS g M N)).trans tickS_1
def wsP (g : Hv) (l : Nat) : Int32 := b2i (if 10 ≤ g 9 l then ¬ g 1 (g 9 l - 10).toNatClampNeg ≤ 3 else ¬ g 9 l = 0)
def drP (g : Hv) (l : Nat) : Int32 := b2i (g 9 l = 2)
theorem HI.ten {M N : Nat} {g : Hv} (h : HI M N g) {l : Nat} (hl : l < N) : 10 ≤ g 9 l → ∃ q, q < 5 ∧ g 9 l = nI (10 + q) := by
  intro hq
  have := h.hM5
  rcases h.how l hl with z | z | z | ⟨k, hk, z, -⟩
  · rw [z] at hq; exact absurd hq (by decide)
  · rw [z] at hq; exact absurd hq (by decide)
  · rw [z] at hq; exact absurd hq (by decide)
  · exact ⟨k, by omega, z⟩
theorem m7_isSo_1_0 {h w g : Hv} {M N : Nat} (hr : RepM M N g w 9 10) (hI : HI M N g) (hk7 : ∀ k, k < M → w 7 (2 + k) = g 1 k) {l : Nat} (hl : l < N) {x : Int32} (ex : x = nI l) (e9 : g 9 l = 0) : MtF M_X7_isSo 1 [.ref 360, .int x, .int 1] (mu h w) (some (.int (wsP g l))) (mu h w) := by
  subst ex
  have hN6 := hI.hN6
  refine MtF.of [some (.ref 360), some (.int (nI l)), some (.int 1), none] pl_X7 rfl rfl ?_
  refine g_aload_n d_X7_isSo_0 rfl ?_
  refine h_getR d_X7_isSo_1 fl_7_37 sp_M rfl ?_
  refine g_bipush d_X7_isSo_4 bk_30 ?_
  refine g_iload_n d_X7_isSo_6 rfl ?_
  refine g_iadd d_X7_isSo_7 ?_
  refine mm_aldV (k := (30 + l)) (v := 0) d_X7_isSo_8 (j := 10) sp_m_w rfl (by decide) (nAdd rfl rfl) (by omega) (by decide) ((hr.2.2.1 l hl).2.2.1.symm.trans e9) ?_
  refine w_istore_n (L' := [_, _, _, _]) d_X7_isSo_9 rfl rfl rfl ?_
  refine g_iload_n d_X7_isSo_10 rfl ?_
  refine g_iconst d_X7_isSo_11 ik_2 ?_
  refine g_icmp_eq d_X7_isSo_12 (fun c12 => absurd c12 (by decide)) (fun c12 => ?_)
  refine g_iload_n d_X7_isSo_15 rfl ?_
  refine g_iconst d_X7_isSo_16 ik_1 ?_
  refine g_icmp_ne d_X7_isSo_17 (fun c17 => absurd c17 (by decide)) (fun c17 => ?_)
  refine g_iload_n d_X7_isSo_20 rfl ?_
  refine g_iconst d_X7_isSo_21 ik_1 ?_
  refine g_icmp_eq d_X7_isSo_22 (fun c22 => absurd c22 (by decide)) (fun c22 => ?_)
  refine g_iload_n d_X7_isSo_25 rfl ?_
  refine g_bipush d_X7_isSo_26 bk_10 ?_
  refine g_icmp_lt d_X7_isSo_28 (fun c28 => ?_) (fun c28 => absurd c28 (by decide))
  refine g_iconst d_X7_isSo_52 ik_0 ?_
  refine h_zret d_X7_isSo_53 rfl rfl ?_
  exact pF (by unfold wsP; rw [e9]; rfl) rfl
theorem m7_isSo_1_1 {h w g : Hv} {M N : Nat} (hr : RepM M N g w 9 10) (hI : HI M N g) (hk7 : ∀ k, k < M → w 7 (2 + k) = g 1 k) {l : Nat} (hl : l < N) {x : Int32} (ex : x = nI l) (e9 : g 9 l = 1) : MtF M_X7_isSo 1 [.ref 360, .int x, .int 1] (mu h w) (some (.int (wsP g l))) (mu h w) := by
  subst ex
  have hN6 := hI.hN6
  refine MtF.of [some (.ref 360), some (.int (nI l)), some (.int 1), none] pl_X7 rfl rfl ?_
  refine g_aload_n d_X7_isSo_0 rfl ?_
  refine h_getR d_X7_isSo_1 fl_7_37 sp_M rfl ?_
  refine g_bipush d_X7_isSo_4 bk_30 ?_
  refine g_iload_n d_X7_isSo_6 rfl ?_
  refine g_iadd d_X7_isSo_7 ?_
  refine mm_aldV (k := (30 + l)) (v := 1) d_X7_isSo_8 (j := 10) sp_m_w rfl (by decide) (nAdd rfl rfl) (by omega) (by decide) ((hr.2.2.1 l hl).2.2.1.symm.trans e9) ?_
  refine w_istore_n (L' := [_, _, _, _]) d_X7_isSo_9 rfl rfl rfl ?_
  refine g_iload_n d_X7_isSo_10 rfl ?_
  refine g_iconst d_X7_isSo_11 ik_2 ?_
  refine g_icmp_eq d_X7_isSo_12 (fun c12 => absurd c12 (by decide)) (fun c12 => ?_)
  refine g_iload_n d_X7_isSo_15 rfl ?_
  refine g_iconst d_X7_isSo_16 ik_1 ?_
  refine g_icmp_ne d_X7_isSo_17 (fun c17 => absurd c17 (by decide)) (fun c17 => ?_)
  refine g_iload_n d_X7_isSo_20 rfl ?_
  refine g_iconst d_X7_isSo_21 ik_1 ?_
  refine g_icmp_eq d_X7_isSo_22 (fun c22 => ?_) (fun c22 => absurd c22 (by decide))
  refine g_iconst d_X7_isSo_48 ik_1 ?_
  refine g_goto d_X7_isSo_49 ?_
  refine h_zret d_X7_isSo_53 rfl rfl ?_
  exact pF (by unfold wsP; rw [e9]; rfl) rfl
theorem m7_isSo_1_2 {h w g : Hv} {M N : Nat} (hr : RepM M N g w 9 10) (hI : HI M N g) (hk7 : ∀ k, k < M → w 7 (2 + k) = g 1 k) {l : Nat} (hl : l < N) {x : Int32} (ex : x = nI l) (e9 : g 9 l = 2) : MtF M_X7_isSo 1 [.ref 360, .int x, .int 1] (mu h w) (some (.int (wsP g l))) (mu h w) := by
  subst ex
  have hN6 := hI.hN6
  refine MtF.of [some (.ref 360), some (.int (nI l)), some (.int 1), none] pl_X7 rfl rfl ?_
  refine g_aload_n d_X7_isSo_0 rfl ?_
  refine h_getR d_X7_isSo_1 fl_7_37 sp_M rfl ?_
  refine g_bipush d_X7_isSo_4 bk_30 ?_
  refine g_iload_n d_X7_isSo_6 rfl ?_
  refine g_iadd d_X7_isSo_7 ?_
  refine mm_aldV (k := (30 + l)) (v := 2) d_X7_isSo_8 (j := 10) sp_m_w rfl (by decide) (nAdd rfl rfl) (by omega) (by decide) ((hr.2.2.1 l hl).2.2.1.symm.trans e9) ?_
  refine w_istore_n (L' := [_, _, _, _]) d_X7_isSo_9 rfl rfl rfl ?_
  refine g_iload_n d_X7_isSo_10 rfl ?_
  refine g_iconst d_X7_isSo_11 ik_2 ?_
  refine g_icmp_eq d_X7_isSo_12 (fun c12 => ?_) (fun c12 => absurd c12 (by decide))
  refine g_iconst d_X7_isSo_48 ik_1 ?_
  refine g_goto d_X7_isSo_49 ?_
  refine h_zret d_X7_isSo_53 rfl rfl ?_
  exact pF (by unfold wsP; rw [e9]; rfl) rfl
theorem m7_isSo_1_t {h w g : Hv} {M N : Nat} (hr : RepM M N g w 9 10) (hI : HI M N g) (hk7 : ∀ k, k < M → w 7 (2 + k) = g 1 k) {l : Nat} (hl : l < N) {x : Int32} (ex : x = nI l) {k : Nat} (hk : k < M) (e9 : g 9 l = nI (10 + k)) : MtF M_X7_isSo 1 [.ref 360, .int x, .int 1] (mu h w) (some (.int (wsP g l))) (mu h w) := by
  subst ex
  have hN6 := hI.hN6
  have hM5 := hI.hM5
  have e2 : ¬ nI (10 + k) = 2 := fun z => by have := nI_inj (b := 2) z (by omega) (by decide); omega
  have e1 : ¬ nI (10 + k) = 1 := fun z => by have := nI_inj (b := 1) z (by omega) (by decide); omega
  have e0 : ¬ nI (10 + k) = 0 := nI_ne0 (by omega) (by omega)
  have ea : (2 : Int32) + nI (10 + k) - 10 = nI (2 + k) := by rw [show (2 : Int32) = nI 2 from rfl, nI_add, show (10 : Int32) = nI 10 from rfl, pk_sub (by omega)]; congr 1; omega
  have eb : (nI (10 + k) - 10).toNatClampNeg = k := by rw [show (10 : Int32) = nI 10 from rfl, pk_sub (by omega), nI_clamp (by omega)]; omega
  have ec : (10 : Int32) ≤ nI (10 + k) := nI_le (a := 10) (by omega) (by omega)
  have hw := hI.wsh hk
  refine MtF.of [some (.ref 360), some (.int (nI l)), some (.int 1), none] pl_X7 rfl rfl ?_
  refine g_aload_n d_X7_isSo_0 rfl ?_
  refine h_getR d_X7_isSo_1 fl_7_37 sp_M rfl ?_
  refine g_bipush d_X7_isSo_4 bk_30 ?_
  refine g_iload_n d_X7_isSo_6 rfl ?_
  refine g_iadd d_X7_isSo_7 ?_
  refine mm_aldV (k := (30 + l)) (v := nI (10 + k)) d_X7_isSo_8 (j := 10) sp_m_w rfl (by decide) (nAdd rfl rfl) (by omega) (by decide) ((hr.2.2.1 l hl).2.2.1.symm.trans e9) ?_
  refine w_istore_n (L' := [_, _, _, _]) d_X7_isSo_9 rfl rfl rfl ?_
  refine g_iload_n d_X7_isSo_10 rfl ?_
  refine g_iconst d_X7_isSo_11 ik_2 ?_
  refine g_icmp_eq d_X7_isSo_12 (fun c12 => absurd c12 e2) (fun c12 => ?_)
  refine g_iload_n d_X7_isSo_15 rfl ?_
  refine g_iconst d_X7_isSo_16 ik_1 ?_
  refine g_icmp_ne d_X7_isSo_17 (fun c17 => absurd c17 (by decide)) (fun c17 => ?_)
  refine g_iload_n d_X7_isSo_20 rfl ?_
  refine g_iconst d_X7_isSo_21 ik_1 ?_
  refine g_icmp_eq d_X7_isSo_22 (fun c22 => absurd c22 e1) (fun c22 => ?_)
  refine g_iload_n d_X7_isSo_25 rfl ?_
  refine g_bipush d_X7_isSo_26 bk_10 ?_
  refine g_icmp_lt d_X7_isSo_28 (fun c28 => absurd c28 (Int32.not_lt.mpr ec)) (fun c28 => ?_)
  refine g_aload_n d_X7_isSo_31 rfl ?_
  refine h_getR d_X7_isSo_32 fl_7_28 sp_M rfl ?_
  refine g_iconst d_X7_isSo_35 ik_2 ?_
  refine g_iload_n d_X7_isSo_36 rfl ?_
  refine g_iadd d_X7_isSo_37 ?_
  refine g_bipush d_X7_isSo_38 bk_10 ?_
  refine g_isub d_X7_isSo_40 ?_
  refine mm_aldV (k := (2 + k)) (v := g 1 k) d_X7_isSo_41 (j := 7) sp_m_d rfl (by decide) ea (by omega) (by decide) (hk7 k hk) ?_
  refine h_S1i d_X7_isSo_42 cl_7_152 m7_washes (Nat.le_of_ble_eq_true rfl) (by decide) ?_
  refine g_if_ne d_X7_isSo_45 (fun c45 => ?_) (fun c45 => ?_)
  · refine g_iconst d_X7_isSo_52 ik_0 ?_
    refine h_zret d_X7_isSo_53 rfl rfl ?_
    exact pF (by unfold wsP; rw [e9]; first | rw [b2i_f (fun z => by rw [if_pos ec, eb] at z; exact z (hw.mp (b2i_ne0.mp c45)))] | rw [b2i_t (by rw [if_pos ec, eb]; exact fun z => b2i_eq0.mp c45 (hw.mpr z))]) rfl
  · refine g_iconst d_X7_isSo_48 ik_1 ?_
    refine g_goto d_X7_isSo_49 ?_
    refine h_zret d_X7_isSo_53 rfl rfl ?_
    exact pF (by unfold wsP; rw [e9]; first | rw [b2i_f (fun z => by rw [if_pos ec, eb] at z; exact z (hw.mp (b2i_ne0.mp c45)))] | rw [b2i_t (by rw [if_pos ec, eb]; exact fun z => b2i_eq0.mp c45 (hw.mpr z))]) rfl
theorem m7_isSo_1 {h w g : Hv} {M N : Nat} (hr : RepM M N g w 9 10) (hI : HI M N g) (hk7 : ∀ k, k < M → w 7 (2 + k) = g 1 k) {l : Nat} (hl : l < N) {x : Int32} (ex : x = nI l) : MtF M_X7_isSo 1 [.ref 360, .int x, .int 1] (mu h w) (some (.int (wsP g l))) (mu h w) := by
  rcases hI.how l hl with z | z | z | ⟨k, hk, z, -⟩
  · exact m7_isSo_1_0 hr hI hk7 hl ex z
  · exact m7_isSo_1_1 hr hI hk7 hl ex z
  · exact m7_isSo_1_2 hr hI hk7 hl ex z
  · exact m7_isSo_1_t hr hI hk7 hl ex hk z
theorem lp_when6_1 {H g : Hv} {M N l : Nat} (hI : HI M N g) (hl : l < N) : ∀ m n, n + m = 61 → ∀ y, GdH M_X6_when 4 32 [some (.ref 0), some (.int (nI l)), some (.int 1), some (.ref 27), some (.int (nI n)), y] [] (pu H 27 (tickN M N n g)) (fun v' h' => v' = some (.int (fstP (fun n => wsP (tickN M N n g) l) m n)) ∧ ∃ g', h' = pu H 27 g') := by
  have hN6 := hI.hN6
  intro m
  induction m with
  | zero =>
    intro n hn y
    refine g_iload d_X6_when_32 rfl ?_
    refine g_bipush d_X6_when_34 bk_60 ?_
    refine g_icmp_gt d_X6_when_36 (fun c36 => ?_) (fun c36 => absurd ((nI_ltI (a := 60) (b := n) (by decide) (by omega)).mpr (by omega)) c36)
    refine g_ldc d_X6_when_87 kc_X6_220 ?_
    refine h_iret d_X6_when_89 rfl ?_
    exact ⟨rfl, _, rfl⟩
  | succ m ih =>
    intro n hn y
    have hI2 := hI.tickN n
    refine g_iload d_X6_when_32 rfl ?_
    refine g_bipush d_X6_when_34 bk_60 ?_
    refine g_icmp_gt d_X6_when_36 (fun c36 => absurd c36 (fun z => by have := (nI_ltI (a := 60) (b := n) (by decide) (by omega)).mp z; omega)) (fun c36 => ?_)
    refine g_iload_n d_X6_when_39 rfl ?_
    refine g_iconst d_X6_when_40 ik_1 ?_
    refine g_icmp_ne d_X6_when_41 (fun c41 => absurd c41 (by decide)) (fun c41 => ?_)
    refine g_aload_n d_X6_when_44 rfl ?_
    refine g_iload_n d_X6_when_45 rfl ?_
    refine h_V1i d_X6_when_46 cl_6_246 (m_isWashed hall_27 rfl (by omega) (hI2.ten hl)) (sp_hall hall_27) (by decide) rfl (Nat.le_of_ble_eq_true rfl) (by decide) ?_
    refine g_goto d_X6_when_49 ?_
    refine w_istore (L' := [_, _, _, _, _, _]) d_X6_when_67 rfl rfl rfl ?_
    refine g_iload d_X6_when_69 rfl ?_
    refine g_if_eq d_X6_when_71 (fun c71 => ?_) (fun c71 => ?_)
    · refine g_aload_n d_X6_when_77 rfl ?_
      refine h_V0v d_X6_when_78 cl_6_164 (m_passTickI hall_27 hI2) (sp_hall hall_27) (by decide) rfl (Nat.le_of_ble_eq_true rfl) (by decide) ?_
      refine w_iinc (L' := [_, _, _, _, _, _]) d_X6_when_81 ik_1 rfl rfl rfl rfl ?_
      refine g_goto d_X6_when_84 ?_
      rw [nI_1, ← tickN_s]
      refine h_weaken (ih (n + 1) (by omega) _) ?_
      intro v' h' hp
      exact ⟨by rw [hp.1, fstP, if_pos (show wsP (tickN M N n g) l = 0 from c71)], hp.2⟩
    · refine g_iload d_X6_when_74 rfl ?_
      refine h_iret d_X6_when_76 rfl ?_
      exact ⟨by rw [fstP, if_neg (show ¬ wsP (tickN M N n g) l = 0 from c71)], _, rfl⟩
theorem lp_when7_1 {h w g : Hv} {M N l : Nat} (hI : HI M N g) (hl : l < N) (hk7 : ∀ k, k < M → w 7 (2 + k) = g 1 k) : ∀ m n, n + m = 61 → ∀ w', RepM M N (tickN M N n g) w' 9 10 → FrS w w' → GdH M_X7_when 5 32 [some (.ref 360), some (.int (nI l)), some (.int 1), some (.int (nI n))] [] (mu h w') (fun v' h' => v' = some (.int (fstP (fun n => wsP (tickN M N n g) l) m n)) ∧ ∃ w2, h' = mu h w2 ∧ FrS w w2) := by
  intro m
  induction m with
  | zero =>
    intro n hn w' hr hf
    refine g_iload_n d_X7_when_32 rfl ?_
    refine g_bipush d_X7_when_33 bk_60 ?_
    refine g_icmp_gt d_X7_when_35 (fun c35 => ?_) (fun c35 => absurd ((nI_ltI (a := 60) (b := n) (by decide) (by omega)).mpr (by omega)) c35)
    refine g_ldc d_X7_when_67 kc_X7_207 ?_
    refine h_iret d_X7_when_69 rfl ?_
    exact ⟨rfl, _, rfl, hf⟩
  | succ m ih =>
    intro n hn w' hr hf
    have hI2 := hI.tickN n
    have hk8 : ∀ k, k < M → w' 7 (2 + k) = tickN M N n g 1 k := fun k hk => ((hf 7 _ (by decide) (by decide) (by decide) (by decide) (by decide) (by omega)).trans (hk7 k hk)).trans (tickN_1 n g).symm
    refine g_iload_n d_X7_when_32 rfl ?_
    refine g_bipush d_X7_when_33 bk_60 ?_
    refine g_icmp_gt d_X7_when_35 (fun c35 => absurd c35 (fun z => by have := (nI_ltI (a := 60) (b := n) (by decide) (by omega)).mp z; omega)) (fun c35 => ?_)
    refine g_aload_n d_X7_when_38 rfl ?_
    refine g_iload_n d_X7_when_39 rfl ?_
    refine g_iload_n d_X7_when_40 rfl ?_
    refine h_V2i d_X7_when_41 cl_7_219 (m7_isSo_1 hr hI2 hk8 hl rfl) sp_M (by decide) rfl (Nat.le_of_ble_eq_true rfl) (by decide) ?_
    refine g_if_eq d_X7_when_44 (fun c44 => ?_) (fun c44 => ?_)
    · refine g_aload_n d_X7_when_49 rfl ?_
      refine g_aload_n d_X7_when_50 rfl ?_
      refine h_getR d_X7_when_51 fl_7_34 sp_M rfl ?_
      refine g_aload_n d_X7_when_54 rfl ?_
      refine h_getR d_X7_when_55 fl_7_37 sp_M rfl ?_
      refine h_V2P d_X7_when_58 cl_7_174 (m7_ticksOne ar_e ar_w (Or.inr ⟨rfl, rfl⟩) hr hI2) sp_M (by decide) rfl (Nat.le_of_ble_eq_true rfl) (by decide) ?_
      intro v' h' hp
      obtain ⟨rfl, w2, rfl, hr2, hf2, hd2⟩ := hp
      refine w_iinc (L' := [_, _, _, _]) d_X7_when_61 ik_1 rfl rfl rfl rfl ?_
      refine g_goto d_X7_when_64 ?_
      rw [nI_1]
      refine h_weaken (ih (n + 1) (by omega) w2 (by rw [tickN_s]; exact hr2) (hf.tr hf2.fs)) ?_
      intro v' h' hp
      exact ⟨by rw [hp.1, fstP, if_pos (show wsP (tickN M N n g) l = 0 from c44)], hp.2⟩
    · refine g_iload_n d_X7_when_47 rfl ?_
      refine h_iret d_X7_when_48 rfl ?_
      exact ⟨by rw [fstP, if_neg (show ¬ wsP (tickN M N n g) l = 0 from c44)], _, rfl, hf⟩
theorem m7_isSo_2_0 {h w g : Hv} {M N : Nat} (hr : RepM M N g w 9 10) (hI : HI M N g) (hk7 : ∀ k, k < M → w 7 (2 + k) = g 1 k) {l : Nat} (hl : l < N) {x : Int32} (ex : x = nI l) (e9 : g 9 l = 0) : MtF M_X7_isSo 1 [.ref 360, .int x, .int 2] (mu h w) (some (.int (drP g l))) (mu h w) := by
  subst ex
  have hN6 := hI.hN6
  refine MtF.of [some (.ref 360), some (.int (nI l)), some (.int 2), none] pl_X7 rfl rfl ?_
  refine g_aload_n d_X7_isSo_0 rfl ?_
  refine h_getR d_X7_isSo_1 fl_7_37 sp_M rfl ?_
  refine g_bipush d_X7_isSo_4 bk_30 ?_
  refine g_iload_n d_X7_isSo_6 rfl ?_
  refine g_iadd d_X7_isSo_7 ?_
  refine mm_aldV (k := (30 + l)) (v := 0) d_X7_isSo_8 (j := 10) sp_m_w rfl (by decide) (nAdd rfl rfl) (by omega) (by decide) ((hr.2.2.1 l hl).2.2.1.symm.trans e9) ?_
  refine w_istore_n (L' := [_, _, _, _]) d_X7_isSo_9 rfl rfl rfl ?_
  refine g_iload_n d_X7_isSo_10 rfl ?_
  refine g_iconst d_X7_isSo_11 ik_2 ?_
  refine g_icmp_eq d_X7_isSo_12 (fun c12 => absurd c12 (by decide)) (fun c12 => ?_)
  refine g_iload_n d_X7_isSo_15 rfl ?_
  refine g_iconst d_X7_isSo_16 ik_1 ?_
  refine g_icmp_ne d_X7_isSo_17 (fun c17 => ?_) (fun c17 => absurd c17 (by decide))
  refine g_iconst d_X7_isSo_52 ik_0 ?_
  refine h_zret d_X7_isSo_53 rfl rfl ?_
  exact pF (by unfold drP; rw [e9]; rfl) rfl
theorem m7_isSo_2_1 {h w g : Hv} {M N : Nat} (hr : RepM M N g w 9 10) (hI : HI M N g) (hk7 : ∀ k, k < M → w 7 (2 + k) = g 1 k) {l : Nat} (hl : l < N) {x : Int32} (ex : x = nI l) (e9 : g 9 l = 1) : MtF M_X7_isSo 1 [.ref 360, .int x, .int 2] (mu h w) (some (.int (drP g l))) (mu h w) := by
  subst ex
  have hN6 := hI.hN6
  refine MtF.of [some (.ref 360), some (.int (nI l)), some (.int 2), none] pl_X7 rfl rfl ?_
  refine g_aload_n d_X7_isSo_0 rfl ?_
  refine h_getR d_X7_isSo_1 fl_7_37 sp_M rfl ?_
  refine g_bipush d_X7_isSo_4 bk_30 ?_
  refine g_iload_n d_X7_isSo_6 rfl ?_
  refine g_iadd d_X7_isSo_7 ?_
  refine mm_aldV (k := (30 + l)) (v := 1) d_X7_isSo_8 (j := 10) sp_m_w rfl (by decide) (nAdd rfl rfl) (by omega) (by decide) ((hr.2.2.1 l hl).2.2.1.symm.trans e9) ?_
  refine w_istore_n (L' := [_, _, _, _]) d_X7_isSo_9 rfl rfl rfl ?_
  refine g_iload_n d_X7_isSo_10 rfl ?_
  refine g_iconst d_X7_isSo_11 ik_2 ?_
  refine g_icmp_eq d_X7_isSo_12 (fun c12 => absurd c12 (by decide)) (fun c12 => ?_)
  refine g_iload_n d_X7_isSo_15 rfl ?_
  refine g_iconst d_X7_isSo_16 ik_1 ?_
  refine g_icmp_ne d_X7_isSo_17 (fun c17 => ?_) (fun c17 => absurd c17 (by decide))
  refine g_iconst d_X7_isSo_52 ik_0 ?_
  refine h_zret d_X7_isSo_53 rfl rfl ?_
  exact pF (by unfold drP; rw [e9]; rfl) rfl
theorem m7_isSo_2_2 {h w g : Hv} {M N : Nat} (hr : RepM M N g w 9 10) (hI : HI M N g) (hk7 : ∀ k, k < M → w 7 (2 + k) = g 1 k) {l : Nat} (hl : l < N) {x : Int32} (ex : x = nI l) (e9 : g 9 l = 2) : MtF M_X7_isSo 1 [.ref 360, .int x, .int 2] (mu h w) (some (.int (drP g l))) (mu h w) := by
  subst ex
  have hN6 := hI.hN6
  refine MtF.of [some (.ref 360), some (.int (nI l)), some (.int 2), none] pl_X7 rfl rfl ?_
  refine g_aload_n d_X7_isSo_0 rfl ?_
  refine h_getR d_X7_isSo_1 fl_7_37 sp_M rfl ?_
  refine g_bipush d_X7_isSo_4 bk_30 ?_
  refine g_iload_n d_X7_isSo_6 rfl ?_
  refine g_iadd d_X7_isSo_7 ?_
  refine mm_aldV (k := (30 + l)) (v := 2) d_X7_isSo_8 (j := 10) sp_m_w rfl (by decide) (nAdd rfl rfl) (by omega) (by decide) ((hr.2.2.1 l hl).2.2.1.symm.trans e9) ?_
  refine w_istore_n (L' := [_, _, _, _]) d_X7_isSo_9 rfl rfl rfl ?_
  refine g_iload_n d_X7_isSo_10 rfl ?_
  refine g_iconst d_X7_isSo_11 ik_2 ?_
  refine g_icmp_eq d_X7_isSo_12 (fun c12 => ?_) (fun c12 => absurd c12 (by decide))
  refine g_iconst d_X7_isSo_48 ik_1 ?_
  refine g_goto d_X7_isSo_49 ?_
  refine h_zret d_X7_isSo_53 rfl rfl ?_
  exact pF (by unfold drP; rw [e9]; rfl) rfl
theorem m7_isSo_2_t {h w g : Hv} {M N : Nat} (hr : RepM M N g w 9 10) (hI : HI M N g) (hk7 : ∀ k, k < M → w 7 (2 + k) = g 1 k) {l : Nat} (hl : l < N) {x : Int32} (ex : x = nI l) {k : Nat} (hk : k < M) (e9 : g 9 l = nI (10 + k)) : MtF M_X7_isSo 1 [.ref 360, .int x, .int 2] (mu h w) (some (.int (drP g l))) (mu h w) := by
  subst ex
  have hN6 := hI.hN6
  have hM5 := hI.hM5
  have e2 : ¬ nI (10 + k) = 2 := fun z => by have := nI_inj (b := 2) z (by omega) (by decide); omega
  have e1 : ¬ nI (10 + k) = 1 := fun z => by have := nI_inj (b := 1) z (by omega) (by decide); omega
  have e0 : ¬ nI (10 + k) = 0 := nI_ne0 (by omega) (by omega)
  have ea : (2 : Int32) + nI (10 + k) - 10 = nI (2 + k) := by rw [show (2 : Int32) = nI 2 from rfl, nI_add, show (10 : Int32) = nI 10 from rfl, pk_sub (by omega)]; congr 1; omega
  have eb : (nI (10 + k) - 10).toNatClampNeg = k := by rw [show (10 : Int32) = nI 10 from rfl, pk_sub (by omega), nI_clamp (by omega)]; omega
  have ec : (10 : Int32) ≤ nI (10 + k) := nI_le (a := 10) (by omega) (by omega)
  have hw := hI.wsh hk
  refine MtF.of [some (.ref 360), some (.int (nI l)), some (.int 2), none] pl_X7 rfl rfl ?_
  refine g_aload_n d_X7_isSo_0 rfl ?_
  refine h_getR d_X7_isSo_1 fl_7_37 sp_M rfl ?_
  refine g_bipush d_X7_isSo_4 bk_30 ?_
  refine g_iload_n d_X7_isSo_6 rfl ?_
  refine g_iadd d_X7_isSo_7 ?_
  refine mm_aldV (k := (30 + l)) (v := nI (10 + k)) d_X7_isSo_8 (j := 10) sp_m_w rfl (by decide) (nAdd rfl rfl) (by omega) (by decide) ((hr.2.2.1 l hl).2.2.1.symm.trans e9) ?_
  refine w_istore_n (L' := [_, _, _, _]) d_X7_isSo_9 rfl rfl rfl ?_
  refine g_iload_n d_X7_isSo_10 rfl ?_
  refine g_iconst d_X7_isSo_11 ik_2 ?_
  refine g_icmp_eq d_X7_isSo_12 (fun c12 => absurd c12 e2) (fun c12 => ?_)
  refine g_iload_n d_X7_isSo_15 rfl ?_
  refine g_iconst d_X7_isSo_16 ik_1 ?_
  refine g_icmp_ne d_X7_isSo_17 (fun c17 => ?_) (fun c17 => absurd c17 (by decide))
  refine g_iconst d_X7_isSo_52 ik_0 ?_
  refine h_zret d_X7_isSo_53 rfl rfl ?_
  exact pF (by unfold drP; rw [e9]; rw [b2i_f e2]) rfl
theorem m7_isSo_2 {h w g : Hv} {M N : Nat} (hr : RepM M N g w 9 10) (hI : HI M N g) (hk7 : ∀ k, k < M → w 7 (2 + k) = g 1 k) {l : Nat} (hl : l < N) {x : Int32} (ex : x = nI l) : MtF M_X7_isSo 1 [.ref 360, .int x, .int 2] (mu h w) (some (.int (drP g l))) (mu h w) := by
  rcases hI.how l hl with z | z | z | ⟨k, hk, z, -⟩
  · exact m7_isSo_2_0 hr hI hk7 hl ex z
  · exact m7_isSo_2_1 hr hI hk7 hl ex z
  · exact m7_isSo_2_2 hr hI hk7 hl ex z
  · exact m7_isSo_2_t hr hI hk7 hl ex hk z
theorem lp_when6_2 {H g : Hv} {M N l : Nat} (hI : HI M N g) (hl : l < N) : ∀ m n, n + m = 61 → ∀ y, GdH M_X6_when 4 32 [some (.ref 0), some (.int (nI l)), some (.int 2), some (.ref 27), some (.int (nI n)), y] [] (pu H 27 (tickN M N n g)) (fun v' h' => v' = some (.int (fstP (fun n => drP (tickN M N n g) l) m n)) ∧ ∃ g', h' = pu H 27 g') := by
  have hN6 := hI.hN6
  intro m
  induction m with
  | zero =>
    intro n hn y
    refine g_iload d_X6_when_32 rfl ?_
    refine g_bipush d_X6_when_34 bk_60 ?_
    refine g_icmp_gt d_X6_when_36 (fun c36 => ?_) (fun c36 => absurd ((nI_ltI (a := 60) (b := n) (by decide) (by omega)).mpr (by omega)) c36)
    refine g_ldc d_X6_when_87 kc_X6_220 ?_
    refine h_iret d_X6_when_89 rfl ?_
    exact ⟨rfl, _, rfl⟩
  | succ m ih =>
    intro n hn y
    have hI2 := hI.tickN n
    refine g_iload d_X6_when_32 rfl ?_
    refine g_bipush d_X6_when_34 bk_60 ?_
    refine g_icmp_gt d_X6_when_36 (fun c36 => absurd c36 (fun z => by have := (nI_ltI (a := 60) (b := n) (by decide) (by omega)).mp z; omega)) (fun c36 => ?_)
    refine g_iload_n d_X6_when_39 rfl ?_
    refine g_iconst d_X6_when_40 ik_1 ?_
    refine g_icmp_ne d_X6_when_41 (fun c41 => ?_) (fun c41 => absurd c41 (by decide))
    refine g_aload_n d_X6_when_52 rfl ?_
    refine h_getR d_X6_when_53 fl_6_189 (sp_hall hall_27) rfl ?_
    refine g_iload_n d_X6_when_56 rfl ?_
    refine hh_aldE (k := l) d_X6_when_57 (sp_h9 hall_27) (by decide) rfl (by omega) (by decide) ?_
    refine g_iconst d_X6_when_58 ik_2 ?_
    refine g_icmp_ne d_X6_when_59 (fun c59 => ?_) (fun c59 => ?_)
    · refine g_iconst d_X6_when_66 ik_0 ?_
      refine w_istore (L' := [_, _, _, _, _, _]) d_X6_when_67 rfl rfl rfl ?_
      refine g_iload d_X6_when_69 rfl ?_
      refine g_if_eq d_X6_when_71 (fun c71 => ?_) (fun c71 => absurd c71 (by decide))
      refine g_aload_n d_X6_when_77 rfl ?_
      refine h_V0v d_X6_when_78 cl_6_164 (m_passTickI hall_27 hI2) (sp_hall hall_27) (by decide) rfl (Nat.le_of_ble_eq_true rfl) (by decide) ?_
      refine w_iinc (L' := [_, _, _, _, _, _]) d_X6_when_81 ik_1 rfl rfl rfl rfl ?_
      refine g_goto d_X6_when_84 ?_
      rw [nI_1, ← tickN_s]
      refine h_weaken (ih (n + 1) (by omega) _) ?_
      intro v' h' hp
      exact ⟨by rw [hp.1, fstP, if_pos (show drP (tickN M N n g) l = 0 from b2i_f c59)], hp.2⟩
    · refine g_iconst d_X6_when_62 ik_1 ?_
      refine g_goto d_X6_when_63 ?_
      refine w_istore (L' := [_, _, _, _, _, _]) d_X6_when_67 rfl rfl rfl ?_
      refine g_iload d_X6_when_69 rfl ?_
      refine g_if_eq d_X6_when_71 (fun c71 => absurd c71 (by decide)) (fun c71 => ?_)
      refine g_iload d_X6_when_74 rfl ?_
      refine h_iret d_X6_when_76 rfl ?_
      exact ⟨by rw [fstP, if_neg (show ¬ drP (tickN M N n g) l = 0 from b2i_ne0.mpr c59)], _, rfl⟩
theorem lp_when7_2 {h w g : Hv} {M N l : Nat} (hI : HI M N g) (hl : l < N) (hk7 : ∀ k, k < M → w 7 (2 + k) = g 1 k) : ∀ m n, n + m = 61 → ∀ w', RepM M N (tickN M N n g) w' 9 10 → FrS w w' → GdH M_X7_when 5 32 [some (.ref 360), some (.int (nI l)), some (.int 2), some (.int (nI n))] [] (mu h w') (fun v' h' => v' = some (.int (fstP (fun n => drP (tickN M N n g) l) m n)) ∧ ∃ w2, h' = mu h w2 ∧ FrS w w2) := by
  intro m
  induction m with
  | zero =>
    intro n hn w' hr hf
    refine g_iload_n d_X7_when_32 rfl ?_
    refine g_bipush d_X7_when_33 bk_60 ?_
    refine g_icmp_gt d_X7_when_35 (fun c35 => ?_) (fun c35 => absurd ((nI_ltI (a := 60) (b := n) (by decide) (by omega)).mpr (by omega)) c35)
    refine g_ldc d_X7_when_67 kc_X7_207 ?_
    refine h_iret d_X7_when_69 rfl ?_
    exact ⟨rfl, _, rfl, hf⟩
  | succ m ih =>
    intro n hn w' hr hf
    have hI2 := hI.tickN n
    have hk8 : ∀ k, k < M → w' 7 (2 + k) = tickN M N n g 1 k := fun k hk => ((hf 7 _ (by decide) (by decide) (by decide) (by decide) (by decide) (by omega)).trans (hk7 k hk)).trans (tickN_1 n g).symm
    refine g_iload_n d_X7_when_32 rfl ?_
    refine g_bipush d_X7_when_33 bk_60 ?_
    refine g_icmp_gt d_X7_when_35 (fun c35 => absurd c35 (fun z => by have := (nI_ltI (a := 60) (b := n) (by decide) (by omega)).mp z; omega)) (fun c35 => ?_)
    refine g_aload_n d_X7_when_38 rfl ?_
    refine g_iload_n d_X7_when_39 rfl ?_
    refine g_iload_n d_X7_when_40 rfl ?_
    refine h_V2i d_X7_when_41 cl_7_219 (m7_isSo_2 hr hI2 hk8 hl rfl) sp_M (by decide) rfl (Nat.le_of_ble_eq_true rfl) (by decide) ?_
    refine g_if_eq d_X7_when_44 (fun c44 => ?_) (fun c44 => ?_)
    · refine g_aload_n d_X7_when_49 rfl ?_
      refine g_aload_n d_X7_when_50 rfl ?_
      refine h_getR d_X7_when_51 fl_7_34 sp_M rfl ?_
      refine g_aload_n d_X7_when_54 rfl ?_
      refine h_getR d_X7_when_55 fl_7_37 sp_M rfl ?_
      refine h_V2P d_X7_when_58 cl_7_174 (m7_ticksOne ar_e ar_w (Or.inr ⟨rfl, rfl⟩) hr hI2) sp_M (by decide) rfl (Nat.le_of_ble_eq_true rfl) (by decide) ?_
      intro v' h' hp
      obtain ⟨rfl, w2, rfl, hr2, hf2, hd2⟩ := hp
      refine w_iinc (L' := [_, _, _, _]) d_X7_when_61 ik_1 rfl rfl rfl rfl ?_
      refine g_goto d_X7_when_64 ?_
      rw [nI_1]
      refine h_weaken (ih (n + 1) (by omega) w2 (by rw [tickN_s]; exact hr2) (hf.tr hf2.fs)) ?_
      intro v' h' hp
      exact ⟨by rw [hp.1, fstP, if_pos (show drP (tickN M N n g) l = 0 from c44)], hp.2⟩
    · refine g_iload_n d_X7_when_47 rfl ?_
      refine h_iret d_X7_when_48 rfl ?_
      exact ⟨by rw [fstP, if_neg (show ¬ drP (tickN M N n g) l = 0 from c44)], _, rfl, hf⟩
theorem op_when {h w : Hv} (hR : RelP h w) {x y : Int32} : OPI M_X6_when M_X7_when 4 5 [.int x, .int y] (mu h w) := by
  obtain ⟨M, N, hM5, hN6, gM, wM, gN, wN, hZ⟩ := hR.mn
  have eM : (nI M).toInt = M := nI_toInt (by omega)
  have eN : (nI N).toInt = N := nI_toInt (by omega)
  have eM1 := nI_predI (t := M) (by omega)
  have eN1 := nI_predI (t := N) (by omega)
  refine MtH.of [some (.ref 0), some (.int x), some (.int y), none, none, none] pl_X6 rfl rfl ?_
  refine g_aload_n d_X6_when_0 rfl ?_
  refine h_getR d_X6_when_1 fl_6_26 sp_L rfl ?_
  refine g_iload_n d_X6_when_4 rfl ?_
  refine h_V1i d_X6_when_5 cl_6_183 p_hasLoad (sp_hall hall_15) (by decide) rfl (Nat.le_of_ble_eq_true rfl) (by decide) ?_
  refine g_if_eq d_X6_when_8 (fun c8 => ?_) (fun c8 => ?_)
  · refine g_ldc d_X6_when_21 kc_X6_66 ?_
    refine h_iret d_X6_when_23 rfl ?_
    refine ⟨_, rfl, ?_⟩
    refine MtH.of [some (.ref 360), some (.int x), some (.int y), none] pl_X7 rfl rfl ?_
    refine g_aload_n d_X7_when_0 rfl ?_
    refine g_iconst d_X7_when_1 ik_0 ?_
    refine mm_putI d_X7_when_2 fl_7_62 sp_M rfl ?_
    refine g_aload_n d_X7_when_5 rfl ?_
    refine g_iload_n d_X7_when_6 rfl ?_
    refine h_V1i d_X7_when_7 cl_7_204 (m7_isLoad ((hs_j (by decide)).trans wN)) sp_M (by decide) rfl (Nat.le_of_ble_eq_true rfl) (by decide) ?_
    refine g_if_eq d_X7_when_10 (fun c10 => ?_) (fun c10 => ?_)
    · refine g_ldc d_X7_when_22 kc_X7_78 ?_
      refine h_iret d_X7_when_24 rfl ?_
      exact ⟨rfl, _, _, rfl, hR.fr fr_thrown⟩
    · refine g_iload_n d_X7_when_13 rfl ?_
      refine g_iconst d_X7_when_14 ik_1 ?_
      refine g_iconst d_X7_when_15 ik_2 ?_
      refine h_S3i d_X7_when_16 cl_7_70 m7_in (Nat.le_of_ble_eq_true rfl) (by decide) ?_
      refine g_if_ne d_X7_when_19 (fun c19 => ?_) (fun c19 => ?_)
      · exfalso
        simp only [b2i_eq0, b2i_ne0, Int32.lt_iff_toInt_lt, Int32.le_iff_toInt_le, t_0, t_1, t_2, t_3, t_4, t_5, t_6, t_7, t_8, t_9, t_10, t_11, t_12, t_20, t_24, t_40, t_50, t_60, t_99, t_110, t_255, t_999, t_999999, t_m1, gM, gN, eM, eN, eM1, eN1] at *
        omega
      · refine g_ldc d_X7_when_22 kc_X7_78 ?_
        refine h_iret d_X7_when_24 rfl ?_
        exact ⟨rfl, _, _, rfl, hR.fr fr_thrown⟩
  · refine g_iload_n d_X6_when_11 rfl ?_
    refine g_iconst d_X6_when_12 ik_1 ?_
    refine g_icmp_lt d_X6_when_13 (fun c13 => ?_) (fun c13 => ?_)
    · refine g_ldc d_X6_when_21 kc_X6_66 ?_
      refine h_iret d_X6_when_23 rfl ?_
      refine ⟨_, rfl, ?_⟩
      refine MtH.of [some (.ref 360), some (.int x), some (.int y), none] pl_X7 rfl rfl ?_
      refine g_aload_n d_X7_when_0 rfl ?_
      refine g_iconst d_X7_when_1 ik_0 ?_
      refine mm_putI d_X7_when_2 fl_7_62 sp_M rfl ?_
      refine g_aload_n d_X7_when_5 rfl ?_
      refine g_iload_n d_X7_when_6 rfl ?_
      refine h_V1i d_X7_when_7 cl_7_204 (m7_isLoad ((hs_j (by decide)).trans wN)) sp_M (by decide) rfl (Nat.le_of_ble_eq_true rfl) (by decide) ?_
      refine g_if_eq d_X7_when_10 (fun c10 => ?_) (fun c10 => ?_)
      · refine g_ldc d_X7_when_22 kc_X7_78 ?_
        refine h_iret d_X7_when_24 rfl ?_
        exact ⟨rfl, _, _, rfl, hR.fr fr_thrown⟩
      · refine g_iload_n d_X7_when_13 rfl ?_
        refine g_iconst d_X7_when_14 ik_1 ?_
        refine g_iconst d_X7_when_15 ik_2 ?_
        refine h_S3i d_X7_when_16 cl_7_70 m7_in (Nat.le_of_ble_eq_true rfl) (by decide) ?_
        refine g_if_ne d_X7_when_19 (fun c19 => ?_) (fun c19 => ?_)
        · exfalso
          simp only [b2i_eq0, b2i_ne0, Int32.lt_iff_toInt_lt, Int32.le_iff_toInt_le, t_0, t_1, t_2, t_3, t_4, t_5, t_6, t_7, t_8, t_9, t_10, t_11, t_12, t_20, t_24, t_40, t_50, t_60, t_99, t_110, t_255, t_999, t_999999, t_m1, gM, gN, eM, eN, eM1, eN1] at *
          omega
        · refine g_ldc d_X7_when_22 kc_X7_78 ?_
          refine h_iret d_X7_when_24 rfl ?_
          exact ⟨rfl, _, _, rfl, hR.fr fr_thrown⟩
    · refine g_iload_n d_X6_when_16 rfl ?_
      refine g_iconst d_X6_when_17 ik_2 ?_
      refine g_icmp_le d_X6_when_18 (fun c18 => ?_) (fun c18 => ?_)
      · obtain ⟨l, hl, rfl⟩ := rngI (x := x) (B := N) (by simp only [b2i_eq0, b2i_ne0, Int32.lt_iff_toInt_lt, Int32.le_iff_toInt_le, t_0, t_1, t_2, t_3, t_4, t_5, t_6, t_7, t_8, t_9, t_10, t_11, t_12, t_20, t_24, t_40, t_50, t_60, t_99, t_110, t_255, t_999, t_999999, t_m1, gM, gN, eM, eN, eM1, eN1] at *; omega) (by simp only [b2i_eq0, b2i_ne0, Int32.lt_iff_toInt_lt, Int32.le_iff_toInt_le, t_0, t_1, t_2, t_3, t_4, t_5, t_6, t_7, t_8, t_9, t_10, t_11, t_12, t_20, t_24, t_40, t_50, t_60, t_99, t_110, t_255, t_999, t_999999, t_m1, gM, gN, eM, eN, eM1, eN1] at *; omega)
        have el : (nI l).toInt = l := nI_toInt (by omega)
        obtain ⟨i0, c0, hi0, hi1, hS, hA, hO⟩ := (hZ.resolve_left (fun z => by have := z.1; have := z.2.1; omega)).2.2
        have hI := hS.1
        have hy : y = 1 ∨ y = 2 := by
          obtain ⟨b, hb, rfl⟩ := rngI (x := y) (B := 3) (by simp only [b2i_eq0, b2i_ne0, Int32.lt_iff_toInt_lt, Int32.le_iff_toInt_le, t_0, t_1, t_2, t_3, t_4, t_5, t_6, t_7, t_8, t_9, t_10, t_11, t_12, t_20, t_24, t_40, t_50, t_60, t_99, t_110, t_255, t_999, t_999999, t_m1, el, gM, gN, eM, eN, eM1, eN1] at *; omega) (by simp only [b2i_eq0, b2i_ne0, Int32.lt_iff_toInt_lt, Int32.le_iff_toInt_le, t_0, t_1, t_2, t_3, t_4, t_5, t_6, t_7, t_8, t_9, t_10, t_11, t_12, t_20, t_24, t_40, t_50, t_60, t_99, t_110, t_255, t_999, t_999999, t_m1, el, gM, gN, eM, eN, eM1, eN1] at *; omega)
          have eb : (nI b).toInt = b := nI_toInt (by omega)
          have : b = 1 ∨ b = 2 := by simp only [b2i_eq0, b2i_ne0, Int32.lt_iff_toInt_lt, Int32.le_iff_toInt_le, t_0, t_1, t_2, t_3, t_4, t_5, t_6, t_7, t_8, t_9, t_10, t_11, t_12, t_20, t_24, t_40, t_50, t_60, t_99, t_110, t_255, t_999, t_999999, t_m1, eb, el, gM, gN, eM, eN, eM1, eN1] at *; omega
          rcases this with rfl | rfl
          · exact Or.inl rfl
          · exact Or.inr rfl
        rcases hy with rfl | rfl
        · refine g_aload_n d_X6_when_24 rfl ?_
          refine h_V0a d_X6_when_25 cl_6_242 p_asNow sp_L (by decide) rfl (Nat.le_of_ble_eq_true rfl) (by decide) ?_
          refine w_astore_n (L' := [_, _, _, _, _, _]) d_X6_when_28 rfl rfl rfl ?_
          refine g_iconst d_X6_when_29 ik_0 ?_
          refine w_istore (L' := [_, _, _, _, _, _]) d_X6_when_30 rfl rfl rfl ?_
          refine h_weaken (lp_when6_1 (H := mu h w) hI hl 61 0 rfl _) ?_
          intro v' h' hp
          obtain ⟨rfl, g', rfl⟩ := hp
          refine ⟨_, rfl, ?_⟩
          rw [mu_pu (by decide)]
          refine MtH.of [some (.ref 360), some (.int (nI l)), some (.int 1), none] pl_X7 rfl rfl ?_
          refine g_aload_n d_X7_when_0 rfl ?_
          refine g_iconst d_X7_when_1 ik_0 ?_
          refine mm_putI d_X7_when_2 fl_7_62 sp_M rfl ?_
          refine g_aload_n d_X7_when_5 rfl ?_
          refine g_iload_n d_X7_when_6 rfl ?_
          refine h_V1i d_X7_when_7 cl_7_204 (m7_isLoad ((hs_j (by decide)).trans wN)) sp_M (by decide) rfl (Nat.le_of_ble_eq_true rfl) (by decide) ?_
          refine g_if_eq d_X7_when_10 (fun c10 => ?_) (fun c10 => ?_)
          · exfalso
            simp only [b2i_eq0, b2i_ne0, Int32.lt_iff_toInt_lt, Int32.le_iff_toInt_le, t_0, t_1, t_2, t_3, t_4, t_5, t_6, t_7, t_8, t_9, t_10, t_11, t_12, t_20, t_24, t_40, t_50, t_60, t_99, t_110, t_255, t_999, t_999999, t_m1, el, gM, gN, eM, eN, eM1, eN1] at *
            omega
          · refine g_iload_n d_X7_when_13 rfl ?_
            refine g_iconst d_X7_when_14 ik_1 ?_
            refine g_iconst d_X7_when_15 ik_2 ?_
            refine h_S3i d_X7_when_16 cl_7_70 m7_in (Nat.le_of_ble_eq_true rfl) (by decide) ?_
            refine g_if_ne d_X7_when_19 (fun c19 => ?_) (fun c19 => absurd c19 (by decide))
            refine g_aload_n d_X7_when_25 rfl ?_
            refine g_iconst d_X7_when_26 ik_0 ?_
            refine h_V1P d_X7_when_27 cl_7_212 (m7_goesAhead (n := 0) (hS.2.1.th hM5 hN6) hI hS.2.2.1.1 rfl (by omega)) sp_M (by decide) rfl (Nat.le_of_ble_eq_true rfl) (by decide) ?_
            intro v' h' hp
            obtain ⟨rfl, w2, rfl, hr2, hf2, hd2⟩ := hp
            refine g_iconst d_X7_when_30 ik_0 ?_
            refine w_istore_n (L' := [_, _, _, _]) d_X7_when_31 rfl rfl rfl ?_
            refine h_weaken (lp_when7_1 (w := hset w 0 0 0) hI hl (fun k hk => ((hs_j (by decide)).trans (hS.2.1.2.1 k hk).1.symm)) 61 0 rfl w2 hr2 hf2) ?_
            intro v' h' hp
            obtain ⟨rfl, w3, rfl, hf3⟩ := hp
            exact ⟨rfl, _, _, rfl, (hR.fc fc_27).fr (fr_thrown.tr hf3.fr)⟩
        · refine g_aload_n d_X6_when_24 rfl ?_
          refine h_V0a d_X6_when_25 cl_6_242 p_asNow sp_L (by decide) rfl (Nat.le_of_ble_eq_true rfl) (by decide) ?_
          refine w_astore_n (L' := [_, _, _, _, _, _]) d_X6_when_28 rfl rfl rfl ?_
          refine g_iconst d_X6_when_29 ik_0 ?_
          refine w_istore (L' := [_, _, _, _, _, _]) d_X6_when_30 rfl rfl rfl ?_
          refine h_weaken (lp_when6_2 (H := mu h w) hI hl 61 0 rfl _) ?_
          intro v' h' hp
          obtain ⟨rfl, g', rfl⟩ := hp
          refine ⟨_, rfl, ?_⟩
          rw [mu_pu (by decide)]
          refine MtH.of [some (.ref 360), some (.int (nI l)), some (.int 2), none] pl_X7 rfl rfl ?_
          refine g_aload_n d_X7_when_0 rfl ?_
          refine g_iconst d_X7_when_1 ik_0 ?_
          refine mm_putI d_X7_when_2 fl_7_62 sp_M rfl ?_
          refine g_aload_n d_X7_when_5 rfl ?_
          refine g_iload_n d_X7_when_6 rfl ?_
          refine h_V1i d_X7_when_7 cl_7_204 (m7_isLoad ((hs_j (by decide)).trans wN)) sp_M (by decide) rfl (Nat.le_of_ble_eq_true rfl) (by decide) ?_
          refine g_if_eq d_X7_when_10 (fun c10 => ?_) (fun c10 => ?_)
          · exfalso
            simp only [b2i_eq0, b2i_ne0, Int32.lt_iff_toInt_lt, Int32.le_iff_toInt_le, t_0, t_1, t_2, t_3, t_4, t_5, t_6, t_7, t_8, t_9, t_10, t_11, t_12, t_20, t_24, t_40, t_50, t_60, t_99, t_110, t_255, t_999, t_999999, t_m1, el, gM, gN, eM, eN, eM1, eN1] at *
            omega
          · refine g_iload_n d_X7_when_13 rfl ?_
            refine g_iconst d_X7_when_14 ik_1 ?_
            refine g_iconst d_X7_when_15 ik_2 ?_
            refine h_S3i d_X7_when_16 cl_7_70 m7_in (Nat.le_of_ble_eq_true rfl) (by decide) ?_
            refine g_if_ne d_X7_when_19 (fun c19 => ?_) (fun c19 => absurd c19 (by decide))
            refine g_aload_n d_X7_when_25 rfl ?_
            refine g_iconst d_X7_when_26 ik_0 ?_
            refine h_V1P d_X7_when_27 cl_7_212 (m7_goesAhead (n := 0) (hS.2.1.th hM5 hN6) hI hS.2.2.1.1 rfl (by omega)) sp_M (by decide) rfl (Nat.le_of_ble_eq_true rfl) (by decide) ?_
            intro v' h' hp
            obtain ⟨rfl, w2, rfl, hr2, hf2, hd2⟩ := hp
            refine g_iconst d_X7_when_30 ik_0 ?_
            refine w_istore_n (L' := [_, _, _, _]) d_X7_when_31 rfl rfl rfl ?_
            refine h_weaken (lp_when7_2 (w := hset w 0 0 0) hI hl (fun k hk => ((hs_j (by decide)).trans (hS.2.1.2.1 k hk).1.symm)) 61 0 rfl w2 hr2 hf2) ?_
            intro v' h' hp
            obtain ⟨rfl, w3, rfl, hf3⟩ := hp
            exact ⟨rfl, _, _, rfl, (hR.fc fc_27).fr (fr_thrown.tr hf3.fr)⟩
      · refine g_ldc d_X6_when_21 kc_X6_66 ?_
        refine h_iret d_X6_when_23 rfl ?_
        refine ⟨_, rfl, ?_⟩
        refine MtH.of [some (.ref 360), some (.int x), some (.int y), none] pl_X7 rfl rfl ?_
        refine g_aload_n d_X7_when_0 rfl ?_
        refine g_iconst d_X7_when_1 ik_0 ?_
        refine mm_putI d_X7_when_2 fl_7_62 sp_M rfl ?_
        refine g_aload_n d_X7_when_5 rfl ?_
        refine g_iload_n d_X7_when_6 rfl ?_
        refine h_V1i d_X7_when_7 cl_7_204 (m7_isLoad ((hs_j (by decide)).trans wN)) sp_M (by decide) rfl (Nat.le_of_ble_eq_true rfl) (by decide) ?_
        refine g_if_eq d_X7_when_10 (fun c10 => ?_) (fun c10 => ?_)
        · refine g_ldc d_X7_when_22 kc_X7_78 ?_
          refine h_iret d_X7_when_24 rfl ?_
          exact ⟨rfl, _, _, rfl, hR.fr fr_thrown⟩
        · refine g_iload_n d_X7_when_13 rfl ?_
          refine g_iconst d_X7_when_14 ik_1 ?_
          refine g_iconst d_X7_when_15 ik_2 ?_
          refine h_S3i d_X7_when_16 cl_7_70 m7_in (Nat.le_of_ble_eq_true rfl) (by decide) ?_
          refine g_if_ne d_X7_when_19 (fun c19 => ?_) (fun c19 => ?_)
          · exfalso
            simp only [b2i_eq0, b2i_ne0, Int32.lt_iff_toInt_lt, Int32.le_iff_toInt_le, t_0, t_1, t_2, t_3, t_4, t_5, t_6, t_7, t_8, t_9, t_10, t_11, t_12, t_20, t_24, t_40, t_50, t_60, t_99, t_110, t_255, t_999, t_999999, t_m1, gM, gN, eM, eN, eM1, eN1] at *
            omega
          · refine g_ldc d_X7_when_22 kc_X7_78 ?_
            refine h_iret d_X7_when_24 rfl ?_
            exact ⟨rfl, _, _, rfl, hR.fr fr_thrown⟩

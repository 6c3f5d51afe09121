/-! OPS: open -/
def pcB : Option Nat → Nat
  | none => 6
  | some x => popN x
def oB : Option Nat → Int32
  | none => -1000000
  | some x => nI x
def opC (p : Nat → Int32) : Nat → Option Nat
  | 0 => none
  | b + 1 => if popN b < pcB (opC p b) ∧ ¬ p b = 0 then some b else opC p b
def opF (p : Nat → Int32) : Nat → Option Nat → Option Nat
  | 0, x => x
  | r + 1, x => opF p r (if (x = none ∨ popN r ≤ pcB x) ∧ ¬ p r = 0 then some r else x)
def IsB (p : Nat → Int32) (a b : Nat) : Option Nat → Prop
  | none => ∀ y, a ≤ y → y < b → p y = 0
  | some x => a ≤ x ∧ x < b ∧ ¬ p x = 0 ∧ ∀ y, a ≤ y → y < b → ¬ p y = 0 → popN x < popN y ∨ (popN x = popN y ∧ x ≤ y)
theorem pop32 : ∀ b, b < 32 → popN b < 6 := by decide +kernel
theorem opC_b {p : Nat → Int32} : ∀ b, b ≤ 32 → IsB p 0 b (opC p b)
  | 0, _ => fun y _ h => absurd h (by omega)
  | b + 1, hb => by
    have ih := opC_b (p := p) b (by omega)
    have hp := pop32 b (by omega)
    rw [opC]
    by_cases hc : popN b < pcB (opC p b) ∧ ¬ p b = 0
    · rw [if_pos hc]
      refine ⟨by omega, by omega, hc.2, fun y _ h2 h3 => ?_⟩
      by_cases e : y = b
      · subst e; exact Or.inr ⟨rfl, Nat.le_refl _⟩
      · cases hx : opC p b with
        | none => rw [hx] at ih; exact absurd (ih y (by omega) (by omega)) h3
        | some x =>
          rw [hx] at ih hc
          have q := ih.2.2.2 y (by omega) (by omega) h3
          have : popN b < popN x := hc.1
          omega
    · rw [if_neg hc]
      cases hx : opC p b with
      | none =>
        rw [hx] at ih hc
        intro y _ h2
        by_cases e : y = b
        · subst e
          exact Decidable.byContradiction (fun z => hc ⟨hp, z⟩)
        · exact ih y (by omega) (by omega)
      | some x =>
        rw [hx] at ih hc
        refine ⟨by omega, by have := ih.2.1; omega, ih.2.2.1, fun y _ h2 h3 => ?_⟩
        by_cases e : y = b
        · subst e
          have h4 : ¬ popN y < popN x := fun z => hc ⟨z, h3⟩
          have := ih.2.1
          omega
        · exact ih.2.2.2 y (by omega) (by omega) h3
theorem opF_b {p : Nat → Int32} {E : Nat} : ∀ (r : Nat) (x : Option Nat), r ≤ E → IsB p r E x → IsB p 0 E (opF p r x)
  | 0, x, _, h => h
  | r + 1, x, hr, h => by
    rw [opF]
    refine opF_b r _ (by omega) ?_
    by_cases hc : (x = none ∨ popN r ≤ pcB x) ∧ ¬ p r = 0
    · rw [if_pos hc]
      refine ⟨by omega, by omega, hc.2, fun y h1 h2 h3 => ?_⟩
      by_cases e : y = r
      · subst e; exact Or.inr ⟨rfl, Nat.le_refl _⟩
      · cases x with
        | none => exact absurd (h y (by omega) h2) h3
        | some x =>
          have q := h.2.2.2 y (by omega) h2 h3
          have : popN r ≤ popN x := hc.1.resolve_left (fun z => by cases z)
          omega
    · rw [if_neg hc]
      cases x with
      | none =>
        intro y h1 h2
        by_cases e : y = r
        · subst e
          exact Decidable.byContradiction (fun z => hc ⟨Or.inl rfl, z⟩)
        · exact h y (by omega) h2
      | some x =>
        refine ⟨by have := h.1; omega, h.2.1, h.2.2.1, fun y h1 h2 h3 => ?_⟩
        by_cases e : y = r
        · subst e
          have h4 : ¬ popN y ≤ popN x := fun z => hc ⟨Or.inr z, h3⟩
          omega
        · exact h.2.2.2 y (by omega) h2 h3
theorem IsB.eq {p : Nat → Int32} {E : Nat} : ∀ {x y : Option Nat}, IsB p 0 E x → IsB p 0 E y → x = y
  | none, none, _, _ => rfl
  | none, some y, h1, h2 => absurd (h1 y (by omega) h2.2.1) h2.2.2.1
  | some x, none, h1, h2 => absurd (h2 x (by omega) h1.2.1) h1.2.2.1
  | some x, some y, h1, h2 => by
    have a := h1.2.2.2 y (by omega) h2.2.1 h2.2.2.1
    have b := h2.2.2.2 x (by omega) h1.2.1 h1.2.2.1
    have : x = y := by omega
    rw [this]
theorem op_eq {p : Nat → Int32} {E : Nat} (hE : E ≤ 32) : opF p E none = opC p E := IsB.eq (opF_b E none (Nat.le_refl E) (fun y h1 h2 => absurd h1 (by omega))) (opC_b E hE)
theorem pow5 {n : Nat} (h : n ≤ 5) : 2 ^ n ≤ 32 := by
  have := Nat.pow_le_pow_right (show 0 < 2 by decide) h
  simpa using this
theorem nI_neN {b : Nat} (h : b < 2 ^ 31) : ¬ nI b = -1000000 := fun z => by
  have := congrArg Int32.toInt z
  rw [nI_toInt h] at this
  have e : ((-1000000 : Int32).toInt) = -1000000 := by decide
  rw [e] at this
  omega
def opP (M N n : Nat) (g : Hv) (b : Nat) : Int32 := b2i (cntS (tickN M N n (hset g 0 4 (nI b))) 2 N = N)
theorem p_bwo27 {h w g' : Hv} {M N n b : Nat} (hI : HI M N (hv h 15)) (hb : b < 2 ^ M) {z : Int32} (ez : z = nI n) (hn : n < 2 ^ 30) {y : Int32} (ey : y = nI b) : MtF M_X6_behindWithOpen 5 [.ref 0, .int z, .int y] (pu (mu h w) 27 g') (some (.ref 27)) (pu (mu h w) 27 (tickN M N n (hset (hv h 15) 0 4 (nI b)))) := by
  subst ey
  have e : hv (pu (mu h w) 27 g') 15 = hv h 15 := by rw [hv_eq (h := mu h w) (fun j b hj => pu_out (by omega)), mu_hv (by decide)]
  have q := m6_behindWithOpen (h := pu (mu h w) 27 g') (b := nI b) (M := M) (N := N) (by rw [e]; exact hI.openb hb) ez hn
  rw [pu_pu, e] at q
  exact q
theorem lp_open6 {h w : Hv} {M N n : Nat} {y : Int32} (hI : HI M N (hv h 15)) (hn : n < 2 ^ 30) {E : Nat} (hE : (1 : Int32) <<< (nI M &&& 31) = nI E) (hE2 : E = 2 ^ M) (hE32 : E ≤ 32) {P : Option Value → Hv → Prop} (kx : ∀ (g' : Hv) (y6 : Option Value), GdH M_X6_open 6 96 [some (.ref 0), some (.int (nI n)), some (.int y), some (.int (oB (opC (opP M N n (hv h 15)) E))), some (.int (nI (pcB (opC (opP M N n (hv h 15)) E)))), some (.int (nI E)), y6] [] (pu (mu h w) 27 g') P) : ∀ (m b : Nat), b + m = E → ∀ (g' : Hv) (y6 : Option Value), GdH M_X6_open 6 42 [some (.ref 0), some (.int (nI n)), some (.int y), some (.int (oB (opC (opP M N n (hv h 15)) b))), some (.int (nI (pcB (opC (opP M N n (hv h 15)) b)))), some (.int (nI b)), y6] [] (pu (mu h w) 27 g') P := by
  intro m
  induction m with
  | zero =>
    intro b hb g' y6
    have hb' : b = E := by omega
    subst hb'
    refine g_iload d_X6_open_42 rfl ?_
    refine g_iconst d_X6_open_44 ik_1 ?_
    refine g_aload_n d_X6_open_45 rfl ?_
    refine h_getR d_X6_open_46 fl_6_26 sp_L rfl ?_
    refine h_getV (v := nI M) d_X6_open_49 fl_6_132 (sp_hall hall_15) rfl ((pu_out (by decide)).trans ((mu_low (by decide)).trans ((hv_at (by decide)).symm.trans hI.hM))) ?_
    refine g_ishl d_X6_open_52 ?_
    rw [hE]
    refine g_icmp_ge d_X6_open_53 (fun c53 => ?_) (fun c53 => absurd (nI_le (a := b) (b := b) (Nat.le_refl _) (by omega)) c53)
    exact kx g' y6
  | succ m ih =>
    intro b hb g' y6
    have hIb := hI.openb (b := b) (by omega)
    have hI2 := hIb.tickN n
    have hpb := pop32 b (by omega)
    have hpc : pcB (opC (opP M N n (hv h 15)) b) < 7 := by
      cases hx : opC (opP M N n (hv h 15)) b with
      | none => decide
      | some x =>
        have q := opC_b (p := (opP M N n (hv h 15))) b (by omega)
        rw [hx] at q
        have := pop32 x (by have := q.2.1; omega)
        show popN x < 7
        omega
    refine g_iload d_X6_open_42 rfl ?_
    refine g_iconst d_X6_open_44 ik_1 ?_
    refine g_aload_n d_X6_open_45 rfl ?_
    refine h_getR d_X6_open_46 fl_6_26 sp_L rfl ?_
    refine h_getV (v := nI M) d_X6_open_49 fl_6_132 (sp_hall hall_15) rfl ((pu_out (by decide)).trans ((mu_low (by decide)).trans ((hv_at (by decide)).symm.trans hI.hM))) ?_
    refine g_ishl d_X6_open_52 ?_
    rw [hE]
    refine g_icmp_ge d_X6_open_53 (fun c53 => absurd c53 (nI_ge (a := b) (b := E) (by omega) (by omega))) (fun c53 => ?_)
    refine g_iload d_X6_open_56 rfl ?_
    refine h_S1i d_X6_open_58 cl_6_271 (m_bitCount rfl (by omega)) (Nat.le_of_ble_eq_true rfl) (by decide) ?_
    refine w_istore (L' := [_, _, _, _, _, _, _]) d_X6_open_61 rfl rfl rfl ?_
    refine g_iload d_X6_open_63 rfl ?_
    refine g_iload d_X6_open_65 rfl ?_
    refine g_icmp_ge d_X6_open_67 (fun c67 => ?_) (fun c67 => ?_)
    · refine w_iinc (L' := [_, _, _, _, _, _, _]) d_X6_open_90 ik_1 rfl rfl rfl rfl ?_
      refine g_goto d_X6_open_93 ?_
      have q := ih (b + 1) (by omega) g' (some (.int (nI (popN b))))
      rw [opC, if_neg (fun z => nI_ge z.1 (by omega) c67)] at q
      rw [nI_1]
      exact q
    · refine g_aload_n d_X6_open_70 rfl ?_
      refine g_iload_n d_X6_open_71 rfl ?_
      refine g_iload d_X6_open_72 rfl ?_
      refine h_V2a d_X6_open_74 cl_6_276 (p_bwo27 hI (by omega) rfl hn rfl) sp_L (by decide) rfl (Nat.le_of_ble_eq_true rfl) (by decide) ?_
      refine h_V0i d_X6_open_77 cl_6_249 (m_isAllDry hall_27 hI2.hN hI2.hN6) (sp_hall hall_27) (by decide) rfl (Nat.le_of_ble_eq_true rfl) (by decide) ?_
      refine g_if_eq d_X6_open_80 (fun c80 => ?_) (fun c80 => ?_)
      · refine w_iinc (L' := [_, _, _, _, _, _, _]) d_X6_open_90 ik_1 rfl rfl rfl rfl ?_
        refine g_goto d_X6_open_93 ?_
        have hlt : popN b < pcB (opC (opP M N n (hv h 15)) b) := by
          rcases Nat.lt_or_ge (popN b) (pcB (opC (opP M N n (hv h 15)) b)) with z | z
          · exact z
          · exact absurd (nI_le z (by omega)) c67
        have q := ih (b + 1) (by omega) (tickN M N n (hset (hv h 15) 0 4 (nI b))) (some (.int (nI (popN b))))
        rw [opC, if_neg (fun z => z.2 c80)] at q
        rw [nI_1]
        exact q
      · refine g_iload d_X6_open_83 rfl ?_
        refine w_istore_n (L' := [_, _, _, _, _, _, _]) d_X6_open_85 rfl rfl rfl ?_
        refine g_iload d_X6_open_86 rfl ?_
        refine w_istore (L' := [_, _, _, _, _, _, _]) d_X6_open_88 rfl rfl rfl ?_
        refine w_iinc (L' := [_, _, _, _, _, _, _]) d_X6_open_90 ik_1 rfl rfl rfl rfl ?_
        refine g_goto d_X6_open_93 ?_
        have hlt : popN b < pcB (opC (opP M N n (hv h 15)) b) := by
          rcases Nat.lt_or_ge (popN b) (pcB (opC (opP M N n (hv h 15)) b)) with z | z
          · exact z
          · exact absurd (nI_le z (by omega)) c67
        have q := ih (b + 1) (by omega) (tickN M N n (hset (hv h 15) 0 4 (nI b))) (some (.int (nI (popN b))))
        rw [opC, if_pos ⟨hlt, c80⟩] at q
        rw [nI_1]
        exact q
theorem lp_open7 {h w g : Hv} {M N n : Nat} {y : Int32} (hI : HI M N g) (wN : w 7 1 = nI N) (hR : Rep0 M N g w 7 8) (hrk : ∀ j, j < N → g 11 j = nI j) (hn : n < 2 ^ 30) {P : Option Value → Hv → Prop} : ∀ (r : Nat), r ≤ 2 ^ M → ∀ (x : Option Nat) (w' : Hv), (∀ b, x = some b → b < 2 ^ M) → FrS w w' → (∀ w', FrS w w' → GdH M_X7_open 4 113 [some (.ref 360), some (.int (nI n)), some (.int y), some (.int (oI (opF (opP M N n g) r x))), some (.int (-1))] [] (mu h w') P) → GdH M_X7_open 4 51 [some (.ref 360), some (.int (nI n)), some (.int y), some (.int (oI x)), some (.int (nI r - 1))] [] (mu h w') P := by
  have h32 := pow5 hI.hM5
  intro r
  induction r with
  | zero =>
    intro hr x w' hx hf kx
    refine g_iload d_X7_open_51 rfl ?_
    refine g_if_lt d_X7_open_53 (fun c53 => ?_) (fun c53 => absurd (by decide) c53)
    exact kx w' hf
  | succ r ih =>
    intro hr x w' hx hf kx
    rw [nI_pred]
    have hIb := hI.openb (b := r) (by omega)
    have hI2 := hIb.tickN n
    have hn0 := rep_now (hf.r0 hR hI.hM5 hI.hN6) hI.hM5 hI.hN6 hrk
    have hn1 := rep_04 (v := nI r) hn0 (Or.inr ⟨rfl, rfl⟩) hI.hM5 hI.hN6
    have hnd : (opP M N n g) r = b2i (cntS (tickN M N n (hset g 0 4 (nI r))) 2 N = N) := rfl
    have hpr := pop32 r (by omega)
    cases x with
    | none =>
      refine g_iload d_X7_open_51 rfl ?_
      refine g_if_lt d_X7_open_53 (fun c53 => absurd c53 (nI_pos (by omega))) (fun c53 => ?_)
      refine g_iload_n d_X7_open_56 rfl ?_
      refine g_if_lt d_X7_open_57 (fun c57 => ?_) (fun c57 => absurd (show oI none < 0 by decide) c57)
      refine g_aload_n d_X7_open_72 rfl ?_
      refine h_V0v d_X7_open_73 cl_7_178 m7_asNow sp_M (by decide) rfl (Nat.le_of_ble_eq_true rfl) (by decide) ?_
      refine g_aload_n d_X7_open_76 rfl ?_
      refine h_V0v d_X7_open_77 cl_7_181 m7_ranksByNumber sp_M (by decide) rfl (Nat.le_of_ble_eq_true rfl) (by decide) ?_
      refine g_aload_n d_X7_open_80 rfl ?_
      refine h_getR d_X7_open_81 fl_7_37 sp_M rfl ?_
      refine g_iconst d_X7_open_84 ik_2 ?_
      refine g_iload d_X7_open_85 rfl ?_
      refine mm_astE (k := 2) d_X7_open_87 (j := 10) sp_m_w rfl (by decide) rfl (by omega) (by decide) ?_
      refine g_aload_n d_X7_open_88 rfl ?_
      refine g_iload_n d_X7_open_89 rfl ?_
      refine h_V1P d_X7_open_90 cl_7_184 (m7_foretells hn1 hIb rfl hn) sp_M (by decide) rfl (Nat.le_of_ble_eq_true rfl) (by decide) ?_
      intro v' h' hp
      obtain ⟨rfl, w2, rfl, hr2, hf2, hd2⟩ := hp
      have hf3 := hf.tr (((nowR_fs (w := w')).set (j := 10) (by omega)).tr hf2.fs)
      refine g_aload_n d_X7_open_93 rfl ?_
      refine h_V0i d_X7_open_94 cl_7_222 (m7_isAllDry hr2.r0 hI.hN6 (hf3.w71 wN)) sp_M (by decide) rfl (Nat.le_of_ble_eq_true rfl) (by decide) ?_
      refine g_if_eq d_X7_open_97 (fun c97 => ?_) (fun c97 => ?_)
      · refine g_iload_n d_X7_open_105 rfl ?_
        refine w_istore_n (L' := [_, _, _, _, _]) d_X7_open_106 rfl rfl rfl ?_
        refine w_iinc (L' := [_, _, _, _, _]) d_X7_open_107 ik_m1 rfl rfl rfl rfl ?_
        refine g_goto d_X7_open_110 ?_
        rw [show nI r + (-1) = nI r - 1 from (Int32.sub_eq_add_neg _ _).symm]
        rw [opF, if_neg (fun z => z.2 c97)] at kx
        exact ih (by omega) none w2 hx hf3 kx
      · refine g_iload d_X7_open_100 rfl ?_
        refine g_goto d_X7_open_102 ?_
        refine w_istore_n (L' := [_, _, _, _, _]) d_X7_open_106 rfl rfl rfl ?_
        refine w_iinc (L' := [_, _, _, _, _]) d_X7_open_107 ik_m1 rfl rfl rfl rfl ?_
        refine g_goto d_X7_open_110 ?_
        rw [show nI r + (-1) = nI r - 1 from (Int32.sub_eq_add_neg _ _).symm]
        rw [opF, if_pos ⟨Or.inl rfl, c97⟩] at kx
        exact ih (by omega) (some r) w2 (fun b hb => by cases hb; omega) hf3 kx
    | some x =>
      have hx1 := hx x rfl
      have hpx := pop32 x (by omega)
      refine g_iload d_X7_open_51 rfl ?_
      refine g_if_lt d_X7_open_53 (fun c53 => absurd c53 (nI_pos (by omega))) (fun c53 => ?_)
      refine g_iload_n d_X7_open_56 rfl ?_
      refine g_if_lt d_X7_open_57 (fun c57 => absurd c57 (show ¬ oI (some x) < 0 from nI_pos (by omega))) (fun c57 => ?_)
      refine g_iload d_X7_open_60 rfl ?_
      refine h_S1i d_X7_open_62 cl_7_228 (m7_ones rfl (by omega)) (Nat.le_of_ble_eq_true rfl) (by decide) ?_
      refine g_iload_n d_X7_open_65 rfl ?_
      refine h_S1i d_X7_open_66 cl_7_228 (m7_ones (n := x) rfl (by omega)) (Nat.le_of_ble_eq_true rfl) (by decide) ?_
      refine g_icmp_gt d_X7_open_69 (fun c69 => ?_) (fun c69 => ?_)
      · refine w_iinc (L' := [_, _, _, _, _]) d_X7_open_107 ik_m1 rfl rfl rfl rfl ?_
        refine g_goto d_X7_open_110 ?_
        rw [show nI r + (-1) = nI r - 1 from (Int32.sub_eq_add_neg _ _).symm]
        rw [opF, if_neg (fun z => by rcases z.1 with q | q; cases q; have := (nI_ltI (by omega) (by omega)).mp c69; have q2 : popN r ≤ popN x := q; omega)] at kx
        exact ih (by omega) (some x) w' hx hf kx
      · refine g_aload_n d_X7_open_72 rfl ?_
        refine h_V0v d_X7_open_73 cl_7_178 m7_asNow sp_M (by decide) rfl (Nat.le_of_ble_eq_true rfl) (by decide) ?_
        refine g_aload_n d_X7_open_76 rfl ?_
        refine h_V0v d_X7_open_77 cl_7_181 m7_ranksByNumber sp_M (by decide) rfl (Nat.le_of_ble_eq_true rfl) (by decide) ?_
        refine g_aload_n d_X7_open_80 rfl ?_
        refine h_getR d_X7_open_81 fl_7_37 sp_M rfl ?_
        refine g_iconst d_X7_open_84 ik_2 ?_
        refine g_iload d_X7_open_85 rfl ?_
        refine mm_astE (k := 2) d_X7_open_87 (j := 10) sp_m_w rfl (by decide) rfl (by omega) (by decide) ?_
        refine g_aload_n d_X7_open_88 rfl ?_
        refine g_iload_n d_X7_open_89 rfl ?_
        refine h_V1P d_X7_open_90 cl_7_184 (m7_foretells hn1 hIb rfl hn) sp_M (by decide) rfl (Nat.le_of_ble_eq_true rfl) (by decide) ?_
        intro v' h' hp
        obtain ⟨rfl, w2, rfl, hr2, hf2, hd2⟩ := hp
        have hf3 := hf.tr (((nowR_fs (w := w')).set (j := 10) (by omega)).tr hf2.fs)
        refine g_aload_n d_X7_open_93 rfl ?_
        refine h_V0i d_X7_open_94 cl_7_222 (m7_isAllDry hr2.r0 hI.hN6 (hf3.w71 wN)) sp_M (by decide) rfl (Nat.le_of_ble_eq_true rfl) (by decide) ?_
        refine g_if_eq d_X7_open_97 (fun c97 => ?_) (fun c97 => ?_)
        · refine g_iload_n d_X7_open_105 rfl ?_
          refine w_istore_n (L' := [_, _, _, _, _]) d_X7_open_106 rfl rfl rfl ?_
          refine w_iinc (L' := [_, _, _, _, _]) d_X7_open_107 ik_m1 rfl rfl rfl rfl ?_
          refine g_goto d_X7_open_110 ?_
          rw [show nI r + (-1) = nI r - 1 from (Int32.sub_eq_add_neg _ _).symm]
          rw [opF, if_neg (fun z => z.2 c97)] at kx
          exact ih (by omega) (some x) w2 hx hf3 kx
        · refine g_iload d_X7_open_100 rfl ?_
          refine g_goto d_X7_open_102 ?_
          refine w_istore_n (L' := [_, _, _, _, _]) d_X7_open_106 rfl rfl rfl ?_
          refine w_iinc (L' := [_, _, _, _, _]) d_X7_open_107 ik_m1 rfl rfl rfl rfl ?_
          refine g_goto d_X7_open_110 ?_
          rw [show nI r + (-1) = nI r - 1 from (Int32.sub_eq_add_neg _ _).symm]
          rw [opF, if_pos ⟨Or.inr (by rcases Nat.lt_or_ge (popN x) (popN r) with z | z; exact absurd ((nI_ltI (by omega) (by omega)).mpr z) c69; exact z), c97⟩] at kx
          exact ih (by omega) (some r) w2 (fun b hb => by cases hb; omega) hf3 kx
theorem op_open {h w : Hv} (hR : RelP h w) {x y : Int32} : OPI M_X6_open M_X7_open 6 4 [.int x, .int y] (mu h w) := by
  obtain ⟨M, N, hM5, hN6, gM, wM, gN, wN, hZ⟩ := hR.mn
  have eM : (nI M).toInt = M := nI_toInt (by omega)
  have eN : (nI N).toInt = N := nI_toInt (by omega)
  have eM1 := nI_predI (t := M) (by omega)
  have eN1 := nI_predI (t := N) (by omega)
  refine MtH.of [some (.ref 0), some (.int x), some (.int y), none, none, none, none] pl_X6 rfl rfl ?_
  refine g_aload_n d_X6_open_0 rfl ?_
  refine h_getR d_X6_open_1 fl_6_26 sp_L rfl ?_
  refine h_V0i d_X6_open_4 cl_6_154 p_isNone (sp_hall hall_15) (by decide) rfl (Nat.le_of_ble_eq_true rfl) (by decide) ?_
  refine g_if_eq d_X6_open_7 (fun c7 => ?_) (fun c7 => ?_)
  · have hM0 : ¬ nI M = 0 := fun z => b2i_eq0.mp c7 (gM.trans z)
    obtain ⟨i0, c0, hi0, hi1, hS, hA, hO⟩ := (hZ.resolve_left (fun z => hM0 (by rw [z.1]; rfl))).2.2
    have hI := hS.1
    refine g_iload_n d_X6_open_13 rfl ?_
    refine h_S1i d_X6_open_14 cl_6_252 m6_isPlanned (Nat.le_of_ble_eq_true rfl) (by decide) ?_
    refine g_if_eq d_X6_open_17 (fun c17 => ?_) (fun c17 => ?_)
    · refine g_ldc d_X6_open_29 kc_X6_66 ?_
      refine h_iret d_X6_open_31 rfl ?_
      refine ⟨_, rfl, ?_⟩
      refine MtH.of [some (.ref 360), some (.int x), some (.int y), none, none] pl_X7 rfl rfl ?_
      refine g_aload_n d_X7_open_0 rfl ?_
      refine g_iconst d_X7_open_1 ik_0 ?_
      refine mm_putI d_X7_open_2 fl_7_62 sp_M rfl ?_
      refine g_aload_n d_X7_open_5 rfl ?_
      refine h_V0i d_X7_open_6 cl_7_195 (m7_isNothing ((hs_j (by decide)).trans wM)) sp_M (by decide) rfl (Nat.le_of_ble_eq_true rfl) (by decide) ?_
      refine g_if_eq d_X7_open_9 (fun c9 => ?_) (fun c9 => ?_)
      · refine g_iload_n d_X7_open_15 rfl ?_
        refine g_iconst d_X7_open_16 ik_1 ?_
        refine g_bipush d_X7_open_17 bk_50 ?_
        refine h_S3i d_X7_open_19 cl_7_70 m7_in (Nat.le_of_ble_eq_true rfl) (by decide) ?_
        refine g_if_eq d_X7_open_22 (fun c22 => ?_) (fun c22 => ?_)
        · refine g_ldc d_X7_open_34 kc_X7_78 ?_
          refine h_iret d_X7_open_36 rfl ?_
          exact ⟨rfl, _, _, rfl, hR.fr fr_thrown⟩
        · refine g_iload_n d_X7_open_25 rfl ?_
          refine g_iconst d_X7_open_26 ik_0 ?_
          refine g_iconst d_X7_open_27 ik_1 ?_
          refine h_S3i d_X7_open_28 cl_7_70 m7_in (Nat.le_of_ble_eq_true rfl) (by decide) ?_
          refine g_if_ne d_X7_open_31 (fun c31 => ?_) (fun c31 => ?_)
          · exfalso
            simp only [b2i_eq0, b2i_ne0, Int32.lt_iff_toInt_lt, Int32.le_iff_toInt_le, t_0, t_1, t_2, t_3, t_4, t_5, t_6, t_7, t_8, t_9, t_10, t_11, t_12, t_20, t_24, t_40, t_50, t_60, t_99, t_110, t_255, t_999, t_999999, t_m1, gM, gN, eM, eN, eM1, eN1] at *
            omega
          · refine g_ldc d_X7_open_34 kc_X7_78 ?_
            refine h_iret d_X7_open_36 rfl ?_
            exact ⟨rfl, _, _, rfl, hR.fr fr_thrown⟩
      · exact absurd (b2i_ne0.mp c9) hM0
    · refine g_iload_n d_X6_open_20 rfl ?_
      refine g_if_lt d_X6_open_21 (fun c21 => ?_) (fun c21 => ?_)
      · refine g_ldc d_X6_open_29 kc_X6_66 ?_
        refine h_iret d_X6_open_31 rfl ?_
        refine ⟨_, rfl, ?_⟩
        refine MtH.of [some (.ref 360), some (.int x), some (.int y), none, none] pl_X7 rfl rfl ?_
        refine g_aload_n d_X7_open_0 rfl ?_
        refine g_iconst d_X7_open_1 ik_0 ?_
        refine mm_putI d_X7_open_2 fl_7_62 sp_M rfl ?_
        refine g_aload_n d_X7_open_5 rfl ?_
        refine h_V0i d_X7_open_6 cl_7_195 (m7_isNothing ((hs_j (by decide)).trans wM)) sp_M (by decide) rfl (Nat.le_of_ble_eq_true rfl) (by decide) ?_
        refine g_if_eq d_X7_open_9 (fun c9 => ?_) (fun c9 => ?_)
        · refine g_iload_n d_X7_open_15 rfl ?_
          refine g_iconst d_X7_open_16 ik_1 ?_
          refine g_bipush d_X7_open_17 bk_50 ?_
          refine h_S3i d_X7_open_19 cl_7_70 m7_in (Nat.le_of_ble_eq_true rfl) (by decide) ?_
          refine g_if_eq d_X7_open_22 (fun c22 => ?_) (fun c22 => ?_)
          · refine g_ldc d_X7_open_34 kc_X7_78 ?_
            refine h_iret d_X7_open_36 rfl ?_
            exact ⟨rfl, _, _, rfl, hR.fr fr_thrown⟩
          · refine g_iload_n d_X7_open_25 rfl ?_
            refine g_iconst d_X7_open_26 ik_0 ?_
            refine g_iconst d_X7_open_27 ik_1 ?_
            refine h_S3i d_X7_open_28 cl_7_70 m7_in (Nat.le_of_ble_eq_true rfl) (by decide) ?_
            refine g_if_ne d_X7_open_31 (fun c31 => ?_) (fun c31 => ?_)
            · exfalso
              simp only [b2i_eq0, b2i_ne0, Int32.lt_iff_toInt_lt, Int32.le_iff_toInt_le, t_0, t_1, t_2, t_3, t_4, t_5, t_6, t_7, t_8, t_9, t_10, t_11, t_12, t_20, t_24, t_40, t_50, t_60, t_99, t_110, t_255, t_999, t_999999, t_m1, gM, gN, eM, eN, eM1, eN1] at *
              omega
            · refine g_ldc d_X7_open_34 kc_X7_78 ?_
              refine h_iret d_X7_open_36 rfl ?_
              exact ⟨rfl, _, _, rfl, hR.fr fr_thrown⟩
        · exact absurd (b2i_ne0.mp c9) hM0
      · refine g_iload_n d_X6_open_24 rfl ?_
        refine g_iconst d_X6_open_25 ik_1 ?_
        refine g_icmp_le d_X6_open_26 (fun c26 => ?_) (fun c26 => ?_)
        · obtain ⟨n, hn, rfl⟩ := rngI (x := x) (B := 51) (by simp only [b2i_eq0, b2i_ne0, Int32.lt_iff_toInt_lt, Int32.le_iff_toInt_le, t_0, t_1, t_2, t_3, t_4, t_5, t_6, t_7, t_8, t_9, t_10, t_11, t_12, t_20, t_24, t_40, t_50, t_60, t_99, t_110, t_255, t_999, t_999999, t_m1, gM, gN, eM, eN, eM1, eN1] at *; omega) (by simp only [b2i_eq0, b2i_ne0, Int32.lt_iff_toInt_lt, Int32.le_iff_toInt_le, t_0, t_1, t_2, t_3, t_4, t_5, t_6, t_7, t_8, t_9, t_10, t_11, t_12, t_20, t_24, t_40, t_50, t_60, t_99, t_110, t_255, t_999, t_999999, t_m1, gM, gN, eM, eN, eM1, eN1] at *; omega)
          have en : (nI n).toInt = n := nI_toInt (by omega)
          refine g_ldc d_X6_open_32 kc_X6_220 ?_
          refine w_istore_n (L' := [_, _, _, _, _, _, _]) d_X6_open_34 rfl rfl rfl ?_
          refine g_bipush d_X6_open_35 bk_6 ?_
          refine w_istore (L' := [_, _, _, _, _, _, _]) d_X6_open_37 rfl rfl rfl ?_
          refine g_iconst d_X6_open_39 ik_0 ?_
          refine w_istore (L' := [_, _, _, _, _, _, _]) d_X6_open_40 rfl rfl rfl ?_
          rw [show mu h w = pu (mu h w) 27 (hv (mu h w) 27) from pu_hv.symm]
          refine lp_open6 hI (by omega) (sh1 M (by omega)) rfl (pow5 hM5) (fun g' y6 => ?_) (2 ^ M) 0 (by omega) _ _
          cases hx : opC (opP M N n (hv h 15)) (2 ^ M) with
          | none =>
            rw [show oB none = -1000000 from rfl]
            refine g_iload_n d_X6_open_96 rfl ?_
            refine g_ldc d_X6_open_97 kc_X6_220 ?_
            refine g_icmp_ne d_X6_open_99 (fun c99 => absurd rfl c99) (fun c99 => ?_)
            refine g_ldc d_X6_open_102 kc_X6_220 ?_
            refine h_iret d_X6_open_104 rfl ?_
            refine ⟨_, rfl, ?_⟩
            rw [mu_pu (by decide)]
            refine MtH.of [some (.ref 360), some (.int (nI n)), some (.int y), none, none] pl_X7 rfl rfl ?_
            refine g_aload_n d_X7_open_0 rfl ?_
            refine g_iconst d_X7_open_1 ik_0 ?_
            refine mm_putI d_X7_open_2 fl_7_62 sp_M rfl ?_
            refine g_aload_n d_X7_open_5 rfl ?_
            refine h_V0i d_X7_open_6 cl_7_195 (m7_isNothing ((hs_j (by decide)).trans wM)) sp_M (by decide) rfl (Nat.le_of_ble_eq_true rfl) (by decide) ?_
            refine g_if_eq d_X7_open_9 (fun c9 => ?_) (fun c9 => ?_)
            · refine g_iload_n d_X7_open_15 rfl ?_
              refine g_iconst d_X7_open_16 ik_1 ?_
              refine g_bipush d_X7_open_17 bk_50 ?_
              refine h_S3i d_X7_open_19 cl_7_70 m7_in (Nat.le_of_ble_eq_true rfl) (by decide) ?_
              refine g_if_eq d_X7_open_22 (fun c22 => ?_) (fun c22 => ?_)
              · exfalso
                simp only [b2i_eq0, b2i_ne0, Int32.lt_iff_toInt_lt, Int32.le_iff_toInt_le, t_0, t_1, t_2, t_3, t_4, t_5, t_6, t_7, t_8, t_9, t_10, t_11, t_12, t_20, t_24, t_40, t_50, t_60, t_99, t_110, t_255, t_999, t_999999, t_m1, en, gM, gN, eM, eN, eM1, eN1] at *
                omega
              · refine g_iload_n d_X7_open_25 rfl ?_
                refine g_iconst d_X7_open_26 ik_0 ?_
                refine g_iconst d_X7_open_27 ik_1 ?_
                refine h_S3i d_X7_open_28 cl_7_70 m7_in (Nat.le_of_ble_eq_true rfl) (by decide) ?_
                refine g_if_ne d_X7_open_31 (fun c31 => ?_) (fun c31 => ?_)
                · refine g_iconst d_X7_open_37 ik_m1 ?_
                  refine w_istore_n (L' := [_, _, _, _, _]) d_X7_open_38 rfl rfl rfl ?_
                  refine g_iconst d_X7_open_39 ik_1 ?_
                  refine g_aload_n d_X7_open_40 rfl ?_
                  refine h_getR d_X7_open_41 fl_7_28 sp_M rfl ?_
                  refine g_iconst d_X7_open_44 ik_0 ?_
                  refine mm_aldV (k := 0) (v := nI M) d_X7_open_45 (j := 7) sp_m_d rfl (by decide) rfl (by omega) (by decide) ((hs_j (by decide)).trans wM) ?_
                  refine g_ishl d_X7_open_46 ?_
                  rw [sh1 M (by omega)]
                  refine g_iconst d_X7_open_47 ik_1 ?_
                  refine g_isub d_X7_open_48 ?_
                  refine w_istore (L' := [_, _, _, _, _]) d_X7_open_49 rfl rfl rfl ?_
                  refine lp_open7 (w := hset w 0 0 0) hI ((hs_j (by decide)).trans wN) (hS.2.1.th hM5 hN6) hS.2.2.1.1 (by omega) (2 ^ M) (Nat.le_refl _) none _ (fun b hb => by cases hb) FrS.rf (fun w3 hf3 => ?_)
                  rw [op_eq (pow5 hM5), hx]
                  refine g_iload_n d_X7_open_113 rfl ?_
                  refine g_if_ge d_X7_open_114 (fun c114 => absurd c114 (show ¬ 0 ≤ oI none by decide)) (fun c114 => ?_)
                  refine g_ldc d_X7_open_117 kc_X7_207 ?_
                  refine g_goto d_X7_open_119 ?_
                  refine h_iret d_X7_open_134 rfl ?_
                  exact ⟨rfl, _, _, rfl, (hR.fc fc_27).fr (fr_thrown.tr hf3.fr)⟩
                · exfalso
                  simp only [b2i_eq0, b2i_ne0, Int32.lt_iff_toInt_lt, Int32.le_iff_toInt_le, t_0, t_1, t_2, t_3, t_4, t_5, t_6, t_7, t_8, t_9, t_10, t_11, t_12, t_20, t_24, t_40, t_50, t_60, t_99, t_110, t_255, t_999, t_999999, t_m1, en, gM, gN, eM, eN, eM1, eN1] at *
                  omega
            · exact absurd (b2i_ne0.mp c9) hM0
          | some b =>
            have hb := opC_b (p := (opP M N n (hv h 15))) (2 ^ M) (pow5 hM5)
            rw [hx] at hb
            have hb1 := hb.2.1
            have h32 := pow5 hM5
            rw [show oB (some b) = nI b from rfl, show pcB (some b) = popN b from rfl]
            obtain ⟨u, hu, rfl⟩ := rngI (x := y) (B := 2) (by simp only [b2i_eq0, b2i_ne0, Int32.lt_iff_toInt_lt, Int32.le_iff_toInt_le, t_0, t_1, t_2, t_3, t_4, t_5, t_6, t_7, t_8, t_9, t_10, t_11, t_12, t_20, t_24, t_40, t_50, t_60, t_99, t_110, t_255, t_999, t_999999, t_m1, en, gM, gN, eM, eN, eM1, eN1] at *; omega) (by simp only [b2i_eq0, b2i_ne0, Int32.lt_iff_toInt_lt, Int32.le_iff_toInt_le, t_0, t_1, t_2, t_3, t_4, t_5, t_6, t_7, t_8, t_9, t_10, t_11, t_12, t_20, t_24, t_40, t_50, t_60, t_99, t_110, t_255, t_999, t_999999, t_m1, en, gM, gN, eM, eN, eM1, eN1] at *; omega)
            have eu : (nI u).toInt = u := nI_toInt (by omega)
            rcases (show u = 0 ∨ u = 1 by omega) with rfl | rfl
            · refine g_iload_n d_X6_open_96 rfl ?_
              refine g_ldc d_X6_open_97 kc_X6_220 ?_
              refine g_icmp_ne d_X6_open_99 (fun c99 => ?_) (fun c99 => absurd c99 (nI_neN (by omega)))
              refine g_iload_n d_X6_open_105 rfl ?_
              refine g_if_ne d_X6_open_106 (fun c106 => absurd c106 (by decide)) (fun c106 => ?_)
              refine g_iload d_X6_open_109 rfl ?_
              refine g_goto d_X6_open_111 ?_
              refine h_iret d_X6_open_115 rfl ?_
              refine ⟨_, rfl, ?_⟩
              rw [mu_pu (by decide)]
              refine MtH.of [some (.ref 360), some (.int (nI n)), some (.int 0), none, none] pl_X7 rfl rfl ?_
              refine g_aload_n d_X7_open_0 rfl ?_
              refine g_iconst d_X7_open_1 ik_0 ?_
              refine mm_putI d_X7_open_2 fl_7_62 sp_M rfl ?_
              refine g_aload_n d_X7_open_5 rfl ?_
              refine h_V0i d_X7_open_6 cl_7_195 (m7_isNothing ((hs_j (by decide)).trans wM)) sp_M (by decide) rfl (Nat.le_of_ble_eq_true rfl) (by decide) ?_
              refine g_if_eq d_X7_open_9 (fun c9 => ?_) (fun c9 => ?_)
              · refine g_iload_n d_X7_open_15 rfl ?_
                refine g_iconst d_X7_open_16 ik_1 ?_
                refine g_bipush d_X7_open_17 bk_50 ?_
                refine h_S3i d_X7_open_19 cl_7_70 m7_in (Nat.le_of_ble_eq_true rfl) (by decide) ?_
                refine g_if_eq d_X7_open_22 (fun c22 => ?_) (fun c22 => ?_)
                · exfalso
                  simp only [b2i_eq0, b2i_ne0, Int32.lt_iff_toInt_lt, Int32.le_iff_toInt_le, t_0, t_1, t_2, t_3, t_4, t_5, t_6, t_7, t_8, t_9, t_10, t_11, t_12, t_20, t_24, t_40, t_50, t_60, t_99, t_110, t_255, t_999, t_999999, t_m1, en, gM, gN, eM, eN, eM1, eN1] at *
                  omega
                · refine g_iload_n d_X7_open_25 rfl ?_
                  refine g_iconst d_X7_open_26 ik_0 ?_
                  refine g_iconst d_X7_open_27 ik_1 ?_
                  refine h_S3i d_X7_open_28 cl_7_70 m7_in (Nat.le_of_ble_eq_true rfl) (by decide) ?_
                  refine g_if_ne d_X7_open_31 (fun c31 => ?_) (fun c31 => absurd c31 (by decide))
                  refine g_iconst d_X7_open_37 ik_m1 ?_
                  refine w_istore_n (L' := [_, _, _, _, _]) d_X7_open_38 rfl rfl rfl ?_
                  refine g_iconst d_X7_open_39 ik_1 ?_
                  refine g_aload_n d_X7_open_40 rfl ?_
                  refine h_getR d_X7_open_41 fl_7_28 sp_M rfl ?_
                  refine g_iconst d_X7_open_44 ik_0 ?_
                  refine mm_aldV (k := 0) (v := nI M) d_X7_open_45 (j := 7) sp_m_d rfl (by decide) rfl (by omega) (by decide) ((hs_j (by decide)).trans wM) ?_
                  refine g_ishl d_X7_open_46 ?_
                  rw [sh1 M (by omega)]
                  refine g_iconst d_X7_open_47 ik_1 ?_
                  refine g_isub d_X7_open_48 ?_
                  refine w_istore (L' := [_, _, _, _, _]) d_X7_open_49 rfl rfl rfl ?_
                  refine lp_open7 (w := hset w 0 0 0) hI ((hs_j (by decide)).trans wN) (hS.2.1.th hM5 hN6) hS.2.2.1.1 (by omega) (2 ^ M) (Nat.le_refl _) none _ (fun b hb => by cases hb) FrS.rf (fun w3 hf3 => ?_)
                  rw [op_eq (pow5 hM5), hx]
                  refine g_iload_n d_X7_open_113 rfl ?_
                  refine g_if_ge d_X7_open_114 (fun c114 => ?_) (fun c114 => absurd (show 0 ≤ oI (some b) from nI_pos' (by omega)) c114)
                  refine g_iload_n d_X7_open_122 rfl ?_
                  refine g_if_ne d_X7_open_123 (fun c123 => absurd c123 (by decide)) (fun c123 => ?_)
                  refine g_iload_n d_X7_open_126 rfl ?_
                  refine h_S1i d_X7_open_127 cl_7_228 (m7_ones (n := b) rfl (by omega)) (Nat.le_of_ble_eq_true rfl) (by decide) ?_
                  refine g_goto d_X7_open_130 ?_
                  refine h_iret d_X7_open_134 rfl ?_
                  exact ⟨rfl, _, _, rfl, (hR.fc fc_27).fr (fr_thrown.tr hf3.fr)⟩
              · exact absurd (b2i_ne0.mp c9) hM0
            · refine g_iload_n d_X6_open_96 rfl ?_
              refine g_ldc d_X6_open_97 kc_X6_220 ?_
              refine g_icmp_ne d_X6_open_99 (fun c99 => ?_) (fun c99 => absurd c99 (nI_neN (by omega)))
              refine g_iload_n d_X6_open_105 rfl ?_
              refine g_if_ne d_X6_open_106 (fun c106 => ?_) (fun c106 => absurd c106 (by decide))
              refine g_iload_n d_X6_open_114 rfl ?_
              refine h_iret d_X6_open_115 rfl ?_
              refine ⟨_, rfl, ?_⟩
              rw [mu_pu (by decide)]
              refine MtH.of [some (.ref 360), some (.int (nI n)), some (.int 1), none, none] pl_X7 rfl rfl ?_
              refine g_aload_n d_X7_open_0 rfl ?_
              refine g_iconst d_X7_open_1 ik_0 ?_
              refine mm_putI d_X7_open_2 fl_7_62 sp_M rfl ?_
              refine g_aload_n d_X7_open_5 rfl ?_
              refine h_V0i d_X7_open_6 cl_7_195 (m7_isNothing ((hs_j (by decide)).trans wM)) sp_M (by decide) rfl (Nat.le_of_ble_eq_true rfl) (by decide) ?_
              refine g_if_eq d_X7_open_9 (fun c9 => ?_) (fun c9 => ?_)
              · refine g_iload_n d_X7_open_15 rfl ?_
                refine g_iconst d_X7_open_16 ik_1 ?_
                refine g_bipush d_X7_open_17 bk_50 ?_
                refine h_S3i d_X7_open_19 cl_7_70 m7_in (Nat.le_of_ble_eq_true rfl) (by decide) ?_
                refine g_if_eq d_X7_open_22 (fun c22 => ?_) (fun c22 => ?_)
                · exfalso
                  simp only [b2i_eq0, b2i_ne0, Int32.lt_iff_toInt_lt, Int32.le_iff_toInt_le, t_0, t_1, t_2, t_3, t_4, t_5, t_6, t_7, t_8, t_9, t_10, t_11, t_12, t_20, t_24, t_40, t_50, t_60, t_99, t_110, t_255, t_999, t_999999, t_m1, en, gM, gN, eM, eN, eM1, eN1] at *
                  omega
                · refine g_iload_n d_X7_open_25 rfl ?_
                  refine g_iconst d_X7_open_26 ik_0 ?_
                  refine g_iconst d_X7_open_27 ik_1 ?_
                  refine h_S3i d_X7_open_28 cl_7_70 m7_in (Nat.le_of_ble_eq_true rfl) (by decide) ?_
                  refine g_if_ne d_X7_open_31 (fun c31 => ?_) (fun c31 => absurd c31 (by decide))
                  refine g_iconst d_X7_open_37 ik_m1 ?_
                  refine w_istore_n (L' := [_, _, _, _, _]) d_X7_open_38 rfl rfl rfl ?_
                  refine g_iconst d_X7_open_39 ik_1 ?_
                  refine g_aload_n d_X7_open_40 rfl ?_
                  refine h_getR d_X7_open_41 fl_7_28 sp_M rfl ?_
                  refine g_iconst d_X7_open_44 ik_0 ?_
                  refine mm_aldV (k := 0) (v := nI M) d_X7_open_45 (j := 7) sp_m_d rfl (by decide) rfl (by omega) (by decide) ((hs_j (by decide)).trans wM) ?_
                  refine g_ishl d_X7_open_46 ?_
                  rw [sh1 M (by omega)]
                  refine g_iconst d_X7_open_47 ik_1 ?_
                  refine g_isub d_X7_open_48 ?_
                  refine w_istore (L' := [_, _, _, _, _]) d_X7_open_49 rfl rfl rfl ?_
                  refine lp_open7 (w := hset w 0 0 0) hI ((hs_j (by decide)).trans wN) (hS.2.1.th hM5 hN6) hS.2.2.1.1 (by omega) (2 ^ M) (Nat.le_refl _) none _ (fun b hb => by cases hb) FrS.rf (fun w3 hf3 => ?_)
                  rw [op_eq (pow5 hM5), hx]
                  refine g_iload_n d_X7_open_113 rfl ?_
                  refine g_if_ge d_X7_open_114 (fun c114 => ?_) (fun c114 => absurd (show 0 ≤ oI (some b) from nI_pos' (by omega)) c114)
                  refine g_iload_n d_X7_open_122 rfl ?_
                  refine g_if_ne d_X7_open_123 (fun c123 => ?_) (fun c123 => absurd c123 (by decide))
                  refine g_iload_n d_X7_open_133 rfl ?_
                  refine h_iret d_X7_open_134 rfl ?_
                  exact ⟨rfl, _, _, rfl, (hR.fc fc_27).fr (fr_thrown.tr hf3.fr)⟩
              · exact absurd (b2i_ne0.mp c9) hM0
        · refine g_ldc d_X6_open_29 kc_X6_66 ?_
          refine h_iret d_X6_open_31 rfl ?_
          refine ⟨_, rfl, ?_⟩
          refine MtH.of [some (.ref 360), some (.int x), some (.int y), none, none] pl_X7 rfl rfl ?_
          refine g_aload_n d_X7_open_0 rfl ?_
          refine g_iconst d_X7_open_1 ik_0 ?_
          refine mm_putI d_X7_open_2 fl_7_62 sp_M rfl ?_
          refine g_aload_n d_X7_open_5 rfl ?_
          refine h_V0i d_X7_open_6 cl_7_195 (m7_isNothing ((hs_j (by decide)).trans wM)) sp_M (by decide) rfl (Nat.le_of_ble_eq_true rfl) (by decide) ?_
          refine g_if_eq d_X7_open_9 (fun c9 => ?_) (fun c9 => ?_)
          · refine g_iload_n d_X7_open_15 rfl ?_
            refine g_iconst d_X7_open_16 ik_1 ?_
            refine g_bipush d_X7_open_17 bk_50 ?_
            refine h_S3i d_X7_open_19 cl_7_70 m7_in (Nat.le_of_ble_eq_true rfl) (by decide) ?_
            refine g_if_eq d_X7_open_22 (fun c22 => ?_) (fun c22 => ?_)
            · refine g_ldc d_X7_open_34 kc_X7_78 ?_
              refine h_iret d_X7_open_36 rfl ?_
              exact ⟨rfl, _, _, rfl, hR.fr fr_thrown⟩
            · refine g_iload_n d_X7_open_25 rfl ?_
              refine g_iconst d_X7_open_26 ik_0 ?_
              refine g_iconst d_X7_open_27 ik_1 ?_
              refine h_S3i d_X7_open_28 cl_7_70 m7_in (Nat.le_of_ble_eq_true rfl) (by decide) ?_
              refine g_if_ne d_X7_open_31 (fun c31 => ?_) (fun c31 => ?_)
              · exfalso
                simp only [b2i_eq0, b2i_ne0, Int32.lt_iff_toInt_lt, Int32.le_iff_toInt_le, t_0, t_1, t_2, t_3, t_4, t_5, t_6, t_7, t_8, t_9, t_10, t_11, t_12, t_20, t_24, t_40, t_50, t_60, t_99, t_110, t_255, t_999, t_999999, t_m1, gM, gN, eM, eN, eM1, eN1] at *
                omega
              · refine g_ldc d_X7_open_34 kc_X7_78 ?_
                refine h_iret d_X7_open_36 rfl ?_
                exact ⟨rfl, _, _, rfl, hR.fr fr_thrown⟩
          · exact absurd (b2i_ne0.mp c9) hM0
  · refine g_ldc d_X6_open_10 kc_X6_141 ?_
    refine h_iret d_X6_open_12 rfl ?_
    refine ⟨_, rfl, ?_⟩
    refine MtH.of [some (.ref 360), some (.int x), some (.int y), none, none] pl_X7 rfl rfl ?_
    refine g_aload_n d_X7_open_0 rfl ?_
    refine g_iconst d_X7_open_1 ik_0 ?_
    refine mm_putI d_X7_open_2 fl_7_62 sp_M rfl ?_
    refine g_aload_n d_X7_open_5 rfl ?_
    refine h_V0i d_X7_open_6 cl_7_195 (m7_isNothing ((hs_j (by decide)).trans wM)) sp_M (by decide) rfl (Nat.le_of_ble_eq_true rfl) (by decide) ?_
    refine g_if_eq d_X7_open_9 (fun c9 => ?_) (fun c9 => ?_)
    · exact absurd (gM.symm.trans (b2i_ne0.mp c7)) (b2i_eq0.mp c9)
    · refine g_ldc d_X7_open_12 kc_X7_194 ?_
      refine h_iret d_X7_open_14 rfl ?_
      exact ⟨rfl, _, _, rfl, hR.fr fr_thrown⟩

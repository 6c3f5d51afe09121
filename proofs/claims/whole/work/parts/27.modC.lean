/-! the reference's tick, in three rounds -/
theorem bz_m1 {v : Int32} {N : Nat} (h : (v = -1) ∨ ∃ l, l < N ∧ v = nI l) (hN : N ≤ 6) : (v < 0 ↔ v = -1) := by
  rcases h with rfl | ⟨l, hl, rfl⟩
  · exact ⟨fun _ => rfl, fun _ => by decide⟩
  · exact ⟨fun q => absurd q (nI_pos (by omega)), fun q => absurd q (nI_ne_m1 (by omega))⟩
theorem HI.in4 {M N : Nat} {g : Hv} (h : HI M N g) {k : Nat} (hk : k < M) : g 4 k = -1 ∨ ∃ l, l < N ∧ g 4 k = nI l := by
  rcases h.hold k hk with z | ⟨l, t, h1, -, -, h4, -⟩
  · exact Or.inl z.1
  · exact Or.inr ⟨l, h1, h4⟩
theorem putS_eq {g : Hv} {k l : Nat} : putS g k l = hset (hset (hset g 4 k (nI l)) 5 k (lastsS g k l)) 9 l (10 + nI k) := hs_cm (by decide)
theorem rep_put {M N ja jb : Nat} {g w : Hv} (hR : RepM M N g w ja jb) (hJ : JJ ja jb) (hM5 : M ≤ 5) (hN6 : N ≤ 6) {k l : Nat} (hk : k < M) (hl : l < N) : RepM M N (putS g k l) (hset (hset (hset w jb (3 + k) (nI l)) jb (8 + k) (lastsS g k l)) jb (30 + l) (10 + nI k)) ja jb := by
  rw [putS_eq]
  refine rep_9 (rep_5 (rep_4 hR hJ hM5 hN6 hk) hJ hM5 hN6 hk) hJ hM5 hN6 hl ?_
  rw [show (10 : Int32) = nI 10 from rfl, nI_add, show (2 : Int32) = nI 2 from rfl]
  intro q
  have := nI_inj q (by omega) (by omega)
  omega
theorem tk1_st {g : Hv} {j l : Nat} (h : (tk1 g j).1 4 j = nI l) (hl : l < 6) : (tk1 g (j + 1)).1 = if 0 < (tk1 g j).1 5 j - 1 then hset (tk1 g j).1 5 j ((tk1 g j).1 5 j - 1) else outS (hset (tk1 g j).1 5 j ((tk1 g j).1 5 j - 1)) j l := by
  have hn : ¬ (tk1 g j).1 4 j = -1 := by rw [h]; exact nI_ne_m1 (by omega)
  by_cases h2 : 0 < (tk1 g j).1 5 j - 1
  · rw [tk1_left hn h2, if_pos h2]
  · rw [tk1_out hn h2, if_neg h2, h, nI_clamp (by omega)]
theorem lp_tickA {h w g : Hv} {M N ja jb A a : Nat} (hA : AR A ja 17) (ha : AR a jb 42) (hJ : JJ ja jb) (hI : HI M N g) {P : Option Value → Hv → Prop} (kx : ∀ w', (hr : RepM M N ((tk1 g M).1) w' ja jb) → (hf : FrM M w w' jb) → (hd : w' 0 21 = w 0 21 + dr1 g M) → GdH M_X7_ticksOne 2 30 [some (.ref 360), some (.ref A), some (.ref a), some (.int (nI M)), none, none] [] (mu h w') P) : ∀ (n j : Nat), j + n = M → ∀ (w' : Hv), (hr : RepM M N ((tk1 g j).1) w' ja jb) → (hf : FrM M w w' jb) → (hd : w' 0 21 = w 0 21 + dr1 g j) → GdH M_X7_ticksOne 2 2 [some (.ref 360), some (.ref A), some (.ref a), some (.int (nI j)), none, none] [] (mu h w') P := by
  have hM5 := hI.hM5
  have hN6 := hI.hN6
  intro n
  induction n with
  | zero =>
    intro j hj w' hr hf hd
    have hj' : j = M := by omega
    subst hj'
    refine g_iload_n d_X7_ticksOne_2 rfl ?_
    refine g_aload_n d_X7_ticksOne_3 rfl ?_
    refine g_iconst d_X7_ticksOne_4 ik_0 ?_
    refine mm_aldV (k := 0) (v := nI j) d_X7_ticksOne_5 hA.1 hA.2.1 hA.2.2 rfl (by omega) (by decide) (hr.1.2.2.1.symm.trans (hI.tk1 j (Nat.le_refl _)).hM) ?_
    refine g_icmp_ge d_X7_ticksOne_6 (fun c6 => ?_) (fun c6 => absurd (nI_le (a := j) (b := j) (Nat.le_refl _) (by omega)) c6)
    exact kx w' hr hf hd
  | succ n ih =>
    intro j hj w' hr hf hd
    have hI' := hI.tk1 j (by omega)
    have hin := bz_m1 (hI'.in4 (k := j) (by omega)) hN6
    refine g_iload_n d_X7_ticksOne_2 rfl ?_
    refine g_aload_n d_X7_ticksOne_3 rfl ?_
    refine g_iconst d_X7_ticksOne_4 ik_0 ?_
    refine mm_aldV (k := 0) (v := nI M) d_X7_ticksOne_5 hA.1 hA.2.1 hA.2.2 rfl (by omega) (by decide) (hr.1.2.2.1.symm.trans hI'.hM) ?_
    refine g_icmp_ge d_X7_ticksOne_6 (fun c6 => absurd c6 (nI_ge (a := j) (b := M) (by omega) (by omega))) (fun c6 => ?_)
    refine g_aload_n d_X7_ticksOne_9 rfl ?_
    refine g_iconst d_X7_ticksOne_10 ik_3 ?_
    refine g_iload_n d_X7_ticksOne_11 rfl ?_
    refine g_iadd d_X7_ticksOne_12 ?_
    refine mm_aldV (k := (3 + j)) (v := (tk1 g j).1 4 j) d_X7_ticksOne_13 ha.1 ha.2.1 ha.2.2 (nAdd rfl rfl) (by omega) (by decide) ((hr.2.1 j (by omega)).2.2.2.1.symm) ?_
    refine g_if_lt d_X7_ticksOne_14 (fun c14 => ?_) (fun c14 => ?_)
    · refine w_iinc (L' := [_, _, _, _, _, _]) d_X7_ticksOne_24 ik_1 rfl rfl rfl rfl ?_
      refine g_goto d_X7_ticksOne_27 ?_
      rw [nI_1]
      first
        | exact ih (j + 1) (by omega) w2 (by rw [tk1_st hl4 (by omega)]; exact hr2) (hf.tr hf2) (by rw [hd2, hd, dr1, Int32.add_assoc])
        | exact ih (j + 1) (by omega) w' (by rw [tk1_no (hin.mp c14)]; exact hr) hf (by rw [hd, dr1, drS, if_pos (hin.mp c14), Int32.add_zero])
    · obtain ⟨l, hlN, hl4⟩ := (hI'.in4 (k := j) (by omega)).resolve_left (fun q => c14 (hin.mpr q))
      refine g_aload_n d_X7_ticksOne_17 rfl ?_
      refine g_aload_n d_X7_ticksOne_18 rfl ?_
      refine g_aload_n d_X7_ticksOne_19 rfl ?_
      refine g_iload_n d_X7_ticksOne_20 rfl ?_
      refine h_V3P d_X7_ticksOne_21 cl_7_158 (m7_comesOut hA ha hJ hr hI' (k := j) (by omega) hl4 hlN rfl) sp_M (by decide) rfl (Nat.le_of_ble_eq_true rfl) (by decide) ?_
      intro v' h' hp
      obtain ⟨rfl, w2, rfl, hr2, hf2, hd2⟩ := hp
      refine w_iinc (L' := [_, _, _, _, _, _]) d_X7_ticksOne_24 ik_1 rfl rfl rfl rfl ?_
      refine g_goto d_X7_ticksOne_27 ?_
      rw [nI_1]
      first
        | exact ih (j + 1) (by omega) w2 (by rw [tk1_st hl4 (by omega)]; exact hr2) (hf.tr hf2) (by rw [hd2, hd, dr1, Int32.add_assoc])
        | exact ih (j + 1) (by omega) w' (by rw [tk1_no (hin.mp c14)]; exact hr) hf (by rw [hd, dr1, drS, if_pos (hin.mp c14), Int32.add_zero])
theorem lp_tickB {h w g : Hv} {M N ja jb A a : Nat} (hA : AR A ja 17) (ha : AR a jb 42) (hJ : JJ ja jb) (hI : HI M N g) (hr : RepM M N g w ja jb) {P : Option Value → Hv → Prop} (kx : GdH M_X7_ticksOne 2 66 [some (.ref 360), some (.ref A), some (.ref a), some (.int (bzS g M)), some (.int (nI M)), none] [] (mu h w) P) : ∀ (n j : Nat), j + n = M → GdH M_X7_ticksOne 2 35 [some (.ref 360), some (.ref A), some (.ref a), some (.int (bzS g j)), some (.int (nI j)), none] [] (mu h w) P := by
  have hM5 := hI.hM5
  intro n
  induction n with
  | zero =>
    intro j hj
    have hj' : j = M := by omega
    rw [hj']
    refine g_iload d_X7_ticksOne_35 rfl ?_
    refine g_aload_n d_X7_ticksOne_37 rfl ?_
    refine g_iconst d_X7_ticksOne_38 ik_0 ?_
    refine mm_aldV (k := 0) (v := nI M) d_X7_ticksOne_39 hA.1 hA.2.1 hA.2.2 rfl (by omega) (by decide) (hr.1.2.2.1.symm.trans hI.hM) ?_
    refine g_icmp_ge d_X7_ticksOne_40 (fun c40 => ?_) (fun c40 => absurd (nI_le (a := M) (b := M) (Nat.le_refl _) (by omega)) c40)
    exact kx
  | succ n ih =>
    intro j hj
    have hM5 := hI.hM5
    have hin := bz_m1 (hI.in4 (k := j) (by omega)) hI.hN6
    refine g_iload d_X7_ticksOne_35 rfl ?_
    refine g_aload_n d_X7_ticksOne_37 rfl ?_
    refine g_iconst d_X7_ticksOne_38 ik_0 ?_
    refine mm_aldV (k := 0) (v := nI M) d_X7_ticksOne_39 hA.1 hA.2.1 hA.2.2 rfl (by omega) (by decide) (hr.1.2.2.1.symm.trans hI.hM) ?_
    refine g_icmp_ge d_X7_ticksOne_40 (fun c40 => absurd c40 (nI_ge (a := j) (b := M) (by omega) (by omega))) (fun c40 => ?_)
    refine g_iload_n d_X7_ticksOne_43 rfl ?_
    refine g_aload_n d_X7_ticksOne_44 rfl ?_
    refine g_iconst d_X7_ticksOne_45 ik_3 ?_
    refine g_iload d_X7_ticksOne_46 rfl ?_
    refine g_iadd d_X7_ticksOne_48 ?_
    refine mm_aldV (k := (3 + j)) (v := g 4 j) d_X7_ticksOne_49 ha.1 ha.2.1 ha.2.2 (nAdd rfl rfl) (by omega) (by decide) ((hr.2.1 j (by omega)).2.2.2.1.symm) ?_
    refine g_if_lt d_X7_ticksOne_50 (fun c50 => ?_) (fun c50 => ?_)
    · refine g_iconst d_X7_ticksOne_57 ik_0 ?_
      refine g_iadd d_X7_ticksOne_58 ?_
      refine w_istore_n (L' := [_, _, _, _, _, _]) d_X7_ticksOne_59 rfl rfl rfl ?_
      refine w_iinc (L' := [_, _, _, _, _, _]) d_X7_ticksOne_60 ik_1 rfl rfl rfl rfl ?_
      refine g_goto d_X7_ticksOne_63 ?_
      have q := ih (j + 1) (by omega)
      first | rw [bzS, if_pos (hin.mp c50), ← Int32.add_zero (bzS g j)] at q | rw [bzS, if_neg (fun z => c50 (hin.mpr z))] at q
      rw [nI_1]
      exact q
    · refine g_iconst d_X7_ticksOne_53 ik_1 ?_
      refine g_goto d_X7_ticksOne_54 ?_
      refine g_iadd d_X7_ticksOne_58 ?_
      refine w_istore_n (L' := [_, _, _, _, _, _]) d_X7_ticksOne_59 rfl rfl rfl ?_
      refine w_iinc (L' := [_, _, _, _, _, _]) d_X7_ticksOne_60 ik_1 rfl rfl rfl rfl ?_
      refine g_goto d_X7_ticksOne_63 ?_
      have q := ih (j + 1) (by omega)
      first | rw [bzS, if_pos (hin.mp c50), ← Int32.add_zero (bzS g j)] at q | rw [bzS, if_neg (fun z => c50 (hin.mpr z))] at q
      rw [nI_1]
      exact q
theorem lp_tickC {h w g : Hv} {M N ja jb A a : Nat} (hA : AR A ja 17) (ha : AR a jb 42) (hJ : JJ ja jb) (hI : HI M N g) {b c : Int32} {P : Option Value → Hv → Prop} (kx : ∀ w' y, (hr : RepM M N ((tk2 g b N M).1) w' ja jb) → (hf : FrM M w w' jb) → (hd : w' 0 21 = w 0 21 + c) → GdH M_X7_ticksOne 2 168 [some (.ref 360), some (.ref A), some (.ref a), some (.int (tk2 g b N M).2), some (.int (nI M)), y] [] (mu h w') P) : ∀ (n j : Nat), j + n = M → ∀ (w' : Hv) (y : Option Value), (hr : RepM M N ((tk2 g b N j).1) w' ja jb) → (hf : FrM M w w' jb) → (hd : w' 0 21 = w 0 21 + c) → GdH M_X7_ticksOne 2 69 [some (.ref 360), some (.ref A), some (.ref a), some (.int (tk2 g b N j).2), some (.int (nI j)), y] [] (mu h w') P := by
  have hM5 := hI.hM5
  have hN6 := hI.hN6
  intro n
  induction n with
  | zero =>
    intro j hj w' y hr hf hd
    have hj' : j = M := by omega
    subst hj'
    refine g_iload d_X7_ticksOne_69 rfl ?_
    refine g_aload_n d_X7_ticksOne_71 rfl ?_
    refine g_iconst d_X7_ticksOne_72 ik_0 ?_
    refine mm_aldV (k := 0) (v := nI j) d_X7_ticksOne_73 hA.1 hA.2.1 hA.2.2 rfl (by omega) (by decide) (hr.1.2.2.1.symm.trans (hI.tk2 j (Nat.le_refl _)).hM) ?_
    refine g_icmp_ge d_X7_ticksOne_74 (fun c74 => ?_) (fun c74 => absurd (nI_le (a := j) (b := j) (Nat.le_refl _) (by omega)) c74)
    exact kx w' y hr hf hd
  | succ n ih =>
    intro j hj w' y hr hf hd
    have hI' := hI.tk2 (b := b) j (by omega)
    have hin := bz_m1 (hI'.in4 (k := j) (by omega)) hN6
    have hw0 : wantS (tk2 g b N j).1 j = wantS g j := by unfold wantS; rw [tk2_j (by decide) (by decide) (by decide)]
    have hw2 : (tk2 g b N j).1 2 j = g 2 j := tk2_j (by decide) (by decide) (by decide) j
    have hno : ∀ {x}, tk2 g b N (j + 1) = tk2 g b N j → GdH M_X7_ticksOne 2 116 [some (.ref 360), some (.ref A), some (.ref a), some (.int (tk2 g b N j).2), some (.int (nI j)), x] [.int (-1)] (mu h w') P := by
      intro x e
      refine w_istore (L' := [_, _, _, _, _, _]) d_X7_ticksOne_116 rfl rfl rfl ?_
      refine g_iload d_X7_ticksOne_118 rfl ?_
      refine g_if_lt d_X7_ticksOne_120 (fun c120 => ?_) (fun c120 => absurd (by decide) c120)
      refine w_iinc (L' := [_, _, _, _, _, _]) d_X7_ticksOne_162 ik_1 rfl rfl rfl rfl ?_
      refine g_goto d_X7_ticksOne_165 ?_
      rw [nI_1]
      have q := ih (j + 1) (by omega) w' (some (.int (-1))) (by rw [e]; exact hr) hf hd
      rw [e] at q
      exact q
    have hyes : ∀ {x l}, l < N → tk2 g b N (j + 1) = (putS (tk2 g b N j).1 j l, (tk2 g b N j).2 + 1) → GdH M_X7_ticksOne 2 116 [some (.ref 360), some (.ref A), some (.ref a), some (.int (tk2 g b N j).2), some (.int (nI j)), x] [.int (nI l)] (mu h w') P := by
      intro x l hl e
      refine w_istore (L' := [_, _, _, _, _, _]) d_X7_ticksOne_116 rfl rfl rfl ?_
      refine g_iload d_X7_ticksOne_118 rfl ?_
      refine g_if_lt d_X7_ticksOne_120 (fun c120 => absurd c120 (nI_pos (by omega))) (fun c120 => ?_)
      refine g_aload_n d_X7_ticksOne_123 rfl ?_
      refine g_iconst d_X7_ticksOne_124 ik_3 ?_
      refine g_iload d_X7_ticksOne_125 rfl ?_
      refine g_iadd d_X7_ticksOne_127 ?_
      refine g_iload d_X7_ticksOne_128 rfl ?_
      refine mm_astE (k := (3 + j)) d_X7_ticksOne_130 ha.1 ha.2.1 ha.2.2 (nAdd rfl rfl) (by omega) (by decide) ?_
      refine g_aload_n d_X7_ticksOne_131 rfl ?_
      refine g_bipush d_X7_ticksOne_132 bk_8 ?_
      refine g_iload d_X7_ticksOne_134 rfl ?_
      refine g_iadd d_X7_ticksOne_136 ?_
      refine g_aload_n d_X7_ticksOne_137 rfl ?_
      refine g_aload_n d_X7_ticksOne_138 rfl ?_
      refine g_iload d_X7_ticksOne_139 rfl ?_
      refine g_iload d_X7_ticksOne_141 rfl ?_
      refine h_S4i d_X7_ticksOne_143 cl_7_170 (m7_lastsOf hA ha (rep_4 hr hJ hM5 hN6 (by omega)) hI'.hl.s4 (by omega) hl rfl rfl) (Nat.le_of_ble_eq_true rfl) (by decide) ?_
      refine mm_astE (k := (8 + j)) d_X7_ticksOne_146 ha.1 ha.2.1 ha.2.2 (nAdd rfl rfl) (by omega) (by decide) ?_
      refine g_aload_n d_X7_ticksOne_147 rfl ?_
      refine g_bipush d_X7_ticksOne_148 bk_30 ?_
      refine g_iload d_X7_ticksOne_150 rfl ?_
      refine g_iadd d_X7_ticksOne_152 ?_
      refine g_bipush d_X7_ticksOne_153 bk_10 ?_
      refine g_iload d_X7_ticksOne_155 rfl ?_
      refine g_iadd d_X7_ticksOne_157 ?_
      refine mm_astE (k := (30 + l)) d_X7_ticksOne_158 ha.1 ha.2.1 ha.2.2 (nAdd rfl rfl) (by omega) (by decide) ?_
      refine w_iinc (L' := [_, _, _, _, _, _]) d_X7_ticksOne_159 ik_1 rfl rfl rfl rfl ?_
      refine w_iinc (L' := [_, _, _, _, _, _]) d_X7_ticksOne_162 ik_1 rfl rfl rfl rfl ?_
      refine g_goto d_X7_ticksOne_165 ?_
      rw [nI_1]
      have q := ih (j + 1) (by omega) _ (some (.int (nI l))) (by rw [e]; exact rep_put hr hJ hM5 hN6 (by omega) hl) (((hf.set).set).set) (by rw [hs_j (by unfold JJ at hJ; omega), hs_j (by unfold JJ at hJ; omega), hs_j (by unfold JJ at hJ; omega)]; exact hd)
      rw [e] at q
      exact q
    have hgo : ∀ {x}, tk2c g b N j → GdH M_X7_ticksOne 2 116 [some (.ref 360), some (.ref A), some (.ref a), some (.int (tk2 g b N j).2), some (.int (nI j)), x] [.int (oI (waitF (tk2 g b N j).1 (wantS (tk2 g b N j).1 j) ((tk2 g b N j).1 2 j) N 0))] (mu h w') P := by
      intro x hcc
      rw [hw0, hw2]
      cases hz : waitF (tk2 g b N j).1 (wantS g j) (g 2 j) N 0 with
      | none => exact hno (tk2_none hz)
      | some l => exact hyes (waitF_some hI' N 0 (by omega) l hz).1 (tk2_some hcc hz)
    refine g_iload d_X7_ticksOne_69 rfl ?_
    refine g_aload_n d_X7_ticksOne_71 rfl ?_
    refine g_iconst d_X7_ticksOne_72 ik_0 ?_
    refine mm_aldV (k := 0) (v := nI M) d_X7_ticksOne_73 hA.1 hA.2.1 hA.2.2 rfl (by omega) (by decide) (hr.1.2.2.1.symm.trans hI'.hM) ?_
    refine g_icmp_ge d_X7_ticksOne_74 (fun c74 => absurd c74 (nI_ge (a := j) (b := M) (by omega) (by omega))) (fun c74 => ?_)
    refine g_aload_n d_X7_ticksOne_77 rfl ?_
    refine g_iconst d_X7_ticksOne_78 ik_3 ?_
    refine g_iload d_X7_ticksOne_79 rfl ?_
    refine g_iadd d_X7_ticksOne_81 ?_
    refine mm_aldV (k := (3 + j)) (v := (tk2 g b N j).1 4 j) d_X7_ticksOne_82 ha.1 ha.2.1 ha.2.2 (nAdd rfl rfl) (by omega) (by decide) ((hr.2.1 j (by omega)).2.2.2.1.symm) ?_
    refine g_if_ge d_X7_ticksOne_83 (fun c83 => ?_) (fun c83 => ?_)
    · refine g_iconst d_X7_ticksOne_115 ik_m1 ?_
      first
        | exact hno (tk2_no (fun q => c83 (by rw [q.2.1]; decide)))
        | exact hno (tk2_no (fun q => by rw [q.2.1] at c83; exact absurd c83 (by decide)))
        | exact hno (tk2_no (fun q => b2i_eq0.mp c94 q.2.2))
        | exact hno (tk2_no (fun q => q.1 c101))
        | exact hgo ⟨c101, hin.mp (Int32.not_le.mp c83), b2i_ne0.mp c94⟩
    · refine g_aload_n d_X7_ticksOne_86 rfl ?_
      refine g_iconst d_X7_ticksOne_87 ik_2 ?_
      refine mm_aldV (k := 2) (v := g 0 4) d_X7_ticksOne_88 ha.1 ha.2.1 ha.2.2 rfl (by omega) (by decide) (hr.1.2.2.2.2.symm.trans (tk2_j (by decide) (by decide) (by decide) j)) ?_
      refine g_iload d_X7_ticksOne_89 rfl ?_
      refine h_S2i d_X7_ticksOne_91 cl_7_162 m7_has (Nat.le_of_ble_eq_true rfl) (by decide) ?_
      refine g_if_eq d_X7_ticksOne_94 (fun c94 => ?_) (fun c94 => ?_)
      · refine g_iconst d_X7_ticksOne_115 ik_m1 ?_
        first
          | exact hno (tk2_no (fun q => c83 (by rw [q.2.1]; decide)))
          | exact hno (tk2_no (fun q => by rw [q.2.1] at c83; exact absurd c83 (by decide)))
          | exact hno (tk2_no (fun q => b2i_eq0.mp c94 q.2.2))
          | exact hno (tk2_no (fun q => q.1 c101))
          | exact hgo ⟨c101, hin.mp (Int32.not_le.mp c83), b2i_ne0.mp c94⟩
      · refine g_iload_n d_X7_ticksOne_97 rfl ?_
        refine g_aload_n d_X7_ticksOne_98 rfl ?_
        refine g_iconst d_X7_ticksOne_99 ik_1 ?_
        refine mm_aldV (k := 1) (v := g 0 0) d_X7_ticksOne_100 ha.1 ha.2.1 ha.2.2 rfl (by omega) (by decide) (hr.1.1.symm.trans (tk2_j (by decide) (by decide) (by decide) j)) ?_
        refine g_icmp_ge d_X7_ticksOne_101 (fun c101 => ?_) (fun c101 => ?_)
        · refine g_iconst d_X7_ticksOne_115 ik_m1 ?_
          first
            | exact hno (tk2_no (fun q => c83 (by rw [q.2.1]; decide)))
            | exact hno (tk2_no (fun q => by rw [q.2.1] at c83; exact absurd c83 (by decide)))
            | exact hno (tk2_no (fun q => b2i_eq0.mp c94 q.2.2))
            | exact hno (tk2_no (fun q => q.1 c101))
            | exact hgo ⟨c101, hin.mp (Int32.not_le.mp c83), b2i_ne0.mp c94⟩
        · refine g_aload_n d_X7_ticksOne_104 rfl ?_
          refine g_aload_n d_X7_ticksOne_105 rfl ?_
          refine g_aload_n d_X7_ticksOne_106 rfl ?_
          refine g_iload d_X7_ticksOne_107 rfl ?_
          refine h_V3i d_X7_ticksOne_109 cl_7_166 (m7_waits hA ha hJ hr hI' (k := j) (by omega) rfl) sp_M (by decide) rfl (Nat.le_of_ble_eq_true rfl) (by decide) ?_
          refine g_goto d_X7_ticksOne_112 ?_
          first
            | exact hno (tk2_no (fun q => c83 (by rw [q.2.1]; decide)))
            | exact hno (tk2_no (fun q => by rw [q.2.1] at c83; exact absurd c83 (by decide)))
            | exact hno (tk2_no (fun q => b2i_eq0.mp c94 q.2.2))
            | exact hno (tk2_no (fun q => q.1 c101))
            | exact hgo ⟨c101, hin.mp (Int32.not_le.mp c83), b2i_ne0.mp c94⟩

/-! OPS: drawn; whole numbers as longs -/
def lI (n : Nat) : Int64 := Int64.ofNat n
theorem lI_toInt {n : Nat} (h : n < 2 ^ 63) : (lI n).toInt = n := Int64.toInt_ofNat_of_lt h
theorem lI_mul (a b : Nat) : lI a * lI b = lI (a * b) := (Int64.ofNat_mul a b).symm
theorem lI_add (a b : Nat) : lI a + lI b = lI (a + b) := (Int64.ofNat_add a b).symm
theorem lI_sub {a b : Nat} (h : b ≤ a) : lI a - lI b = lI (a - b) := (Int64.ofNat_sub a b h).symm
theorem lI_div {a b : Nat} (ha : a < 2 ^ 63) (hb : b < 2 ^ 63) : lI a / lI b = lI (a / b) := by
  apply Int64.toInt_inj.mp
  have h : a / b < 2 ^ 63 := Nat.lt_of_le_of_lt (Nat.div_le_self a b) ha
  rw [Int64.toInt_div, lI_toInt ha, lI_toInt hb, lI_toInt h]
  rw [Int.tdiv_eq_ediv_of_nonneg (Int.natCast_nonneg a), ← Int.natCast_ediv]
  generalize a / b = q at h ⊢
  apply Int.bmod_eq_of_le <;> omega
theorem lI_2i {n : Nat} : (lI n).toInt32 = nI n := Int64.toInt32_ofNat
theorem lI_i2 {n : Nat} (h : n < 2 ^ 31) : (nI n).toInt64 = lI n := by
  apply Int64.toInt_inj.mp
  rw [Int32.toInt_toInt64, lI_toInt (by omega), nI_toInt h]
theorem lI_rem {a b : Nat} (ha : a < 2 ^ 63) (hb : b < 2 ^ 63) : lI a - lI a / lI b * lI b = lI (a % b) := by
  rw [lI_div ha hb, lI_mul, lI_sub (Nat.div_mul_le_self a b)]
  congr 1
  have := Nat.div_add_mod a b
  rw [Nat.mul_comm] at this
  omega
def nxt (X : Nat) : Nat := X * 16807 % 2147483647
theorem nxt_lt (X : Nat) : nxt X < 2 ^ 31 := Nat.lt_of_lt_of_le (Nat.mod_lt _ (by decide)) (by decide)
theorem lI_nxt {X : Nat} (h : X < 2 ^ 31) : lI X * 16807 - lI X * 16807 / 2147483647 * 2147483647 = lI (nxt X) := by
  have e : lI X * 16807 = lI (X * 16807) := lI_mul X 16807
  rw [e]
  exact lI_rem (b := 2147483647) (by omega) (by omega)
/-! how many come dry at a tick -/
theorem cnt_j {g : Hv} {j b : Nat} {v w : Int32} (hj : j ≠ 9) : ∀ n, cntS (hset g j b v) w n = cntS g w n
  | 0 => rfl
  | n + 1 => by rw [cntS, cntS, hs_j (Ne.symm hj), cnt_j hj n]
theorem cnt_hi {g : Hv} {l : Nat} {v w : Int32} : ∀ n, n ≤ l → cntS (hset g 9 l v) w n = cntS g w n
  | 0, _ => rfl
  | n + 1, h => by rw [cntS, cntS, hs_b (by omega), cnt_hi n (by omega)]
theorem cnt_9 {g : Hv} {l : Nat} {v w : Int32} : ∀ n, l < n → cntS (hset g 9 l v) w n + (if g 9 l = w then 1 else 0) = cntS g w n + (if v = w then 1 else 0)
  | 0, h => by omega
  | n + 1, h => by
    rw [cntS, cntS]
    by_cases e : l = n
    · subst e
      rw [hs_at, cnt_hi l (Nat.le_refl l)]
      by_cases z1 : v = w
      · by_cases z2 : g 9 l = w
        · simp only [if_pos z1, if_pos z2]
        · simp only [if_pos z1, if_neg z2, Nat.add_zero]
      · by_cases z2 : g 9 l = w
        · simp only [if_neg z1, if_pos z2, Nat.add_zero]
        · simp only [if_neg z1, if_neg z2]
    · have ih := cnt_9 (g := g) (l := l) (v := v) (w := w) n (by omega)
      rw [hs_b (fun q => e q.symm)]
      by_cases z : g 9 n = w
      · rw [if_pos z, if_pos z]; omega
      · rw [if_neg z, if_neg z]; omega
theorem cnt_ne {g : Hv} {l n : Nat} {v : Int32} (hl : l < n) (h1 : ¬ g 9 l = 2) (h2 : ¬ v = 2) : cntS (hset g 9 l v) 2 n = cntS g 2 n := by
  have := cnt_9 (g := g) (l := l) (v := v) (w := 2) n hl
  rw [if_neg h1, if_neg h2] at this
  omega
theorem cnt_dry {g : Hv} {l n : Nat} (hl : l < n) (h1 : ¬ g 9 l = 2) : cntS (hset g 9 l 2) 2 n = cntS g 2 n + 1 := by
  have := cnt_9 (g := g) (l := l) (v := 2) (w := 2) n hl
  rw [if_neg h1, if_pos rfl] at this
  omega
theorem cnt_t1 {M N : Nat} {g : Hv} (h : HI M N g) : ∀ j, j ≤ M → nI (cntS (tk1 g j).1 2 N) = nI (cntS g 2 N) + dr1 g j
  | 0, _ => by rw [dr1, Int32.add_zero]; rfl
  | j + 1, hj => by
    have ih := cnt_t1 h j (by omega)
    have hI := h.tk1 j (by omega)
    have hM5 := h.hM5
    have hN6 := h.hN6
    rw [dr1, ← Int32.add_assoc, ← ih]
    unfold drS
    by_cases e : (tk1 g j).1 4 j = -1
    · rw [tk1_no e, if_pos e, Int32.add_zero]
    · rw [if_neg e]
      rcases hI.hold j (by omega) with z | ⟨l, t, z1, z2, z3, z4, z5, z6⟩
      · exact absurd z.1 e
      · by_cases e2 : 0 < (tk1 g j).1 5 j - 1
        · rw [tk1_left e e2, if_pos e2, Int32.add_zero]
          dsimp only
          rw [cnt_j (by decide)]
        · have h9 : ¬ (tk1 g j).1 9 l = 2 := by
            rw [z6]
            intro q
            have := nI_inj (a := 10 + j) (b := 2) q (by omega) (by decide)
            omega
          rw [tk1_out e e2, if_neg e2]
          dsimp only
          rw [z4, nI_clamp (by omega)]
          unfold outS
          rw [cnt_j (by decide), cnt_j (by decide), cnt_j (by decide), hs_j (x := 1) (by decide)]
          by_cases e3 : (tk1 g j).1 1 j ≤ 3
          · rw [if_pos e3, if_pos e3, cnt_ne z1 (by rw [hs_j (by decide)]; exact h9) (by decide), cnt_j (by decide), Int32.add_zero]
          · rw [if_neg e3, if_neg e3, cnt_j (by decide), cnt_dry z1 (by rw [hs_j (by decide)]; exact h9), cnt_j (by decide), nI_1]
theorem cnt_t2 {M N : Nat} {g : Hv} {b : Int32} (h : HI M N g) : ∀ j, j ≤ M → cntS (tk2 g b N j).1 2 N = cntS g 2 N
  | 0, _ => rfl
  | j + 1, hj => by
    have ih := cnt_t2 (b := b) h j (by omega)
    have hI := h.tk2 (b := b) j (by omega)
    have hM5 := h.hM5
    rcases tk2_cases g b N j with e | ⟨l, -, hw, e⟩
    · rw [e, ih]
    · rw [e]
      dsimp only
      obtain ⟨hl, h9, -⟩ := waitF_some hI N 0 (by omega) l hw
      unfold putS
      rw [cnt_j (by decide), cnt_ne hl, cnt_j (by decide), ih]
      · rw [hs_j (by decide), h9]
        unfold wantS
        split <;> decide
      · rw [show (10 : Int32) + nI j = nI (10 + j) from nI_add 10 j]
        intro q
        have := nI_inj (a := 10 + j) (b := 2) q (by omega) (by decide)
        omega
theorem cnt_tick {M N : Nat} {g : Hv} (h : HI M N g) : nI (cntS (tickS g M N) 2 N) - nI (cntS g 2 N) = dr1 g M := by
  unfold tickS
  rw [cnt_j (by decide), cnt_t2 (h.tk1 M (Nat.le_refl M)) M (Nat.le_refl M), cnt_t1 h M (Nat.le_refl M), Int32.add_comm, Int32.add_sub_cancel]
/-! a draw -/
def dwS (M N : Nat) : Nat → Nat → Hv → Int32 → Hv × Int32
  | 0, _, g, c => (g, c)
  | n + 1, X, g, c => dwS M N n (nxt X) (tickS (drawS g (nxt X) M N) M N) (c + dr1 (drawS g (nxt X) M N) M)
theorem HI.draw {M N X τ : Nat} {g : Hv} (h : HI M N g) (ht : g 0 1 = nI τ) (hτ : τ ≤ 2000) : HI M N (drawS g X M N) := by
  unfold drawS
  have hN0 := h.hN0
  have hM0 := h.hM0
  have hM5 := h.hM5
  split
  · rename_i h9
    have q := h.dirt (l := X % N) (v := X % 9 + 1) h9 (by omega) (by omega)
    have e : (if g 0 1 + nI (X % 20) < 99 then g 0 1 + nI (X % 20) else 99) = nI (if τ + X % 20 < 99 then τ + X % 20 else 99) := by
      rw [ht, nI_add]
      by_cases z : τ + X % 20 < 99
      · rw [if_pos z]; exact if_pos ((nI_ltI (a := τ + X % 20) (b := 99) (by omega) (by decide)).mpr z)
      · rw [if_neg z]; exact if_neg (fun y => z ((nI_ltI (a := τ + X % 20) (b := 99) (by omega) (by decide)).mp y))
    rw [e]
    exact q.due (by split <;> omega)
  · split
    · obtain ⟨b, hb, eb⟩ := h.opn
      obtain ⟨t1, t2⟩ := trn M hM5 b hb (X % M) (Nat.mod_lt X hM0)
      rw [eb, t1]
      exact h.openb t2
    · exact h
theorem draw_01 {M N X : Nat} {g : Hv} : drawS g X M N 0 1 = g 0 1 := by
  unfold drawS
  split
  · rw [hs_j (by decide)]; rfl
  · split
    · exact hs_b (by decide)
    · rfl
theorem tickS_01 {M N : Nat} {g : Hv} : tickS g M N 0 1 = g 0 1 + 1 := by
  unfold tickS
  rw [hs_at, tk2_j (by decide) (by decide) (by decide), tk1_j (by decide) (by decide) (by decide) (by decide) (by decide)]
theorem rep_dw {M N ja jb : Nat} {g w : Hv} (hR : RepM M N g w ja jb) (hJ : JJ ja jb) (hM5 : M ≤ 5) (hN6 : N ≤ 6) {l : Nat} {v u : Int32} (hl : l < N) : RepM M N (hset (hset (hset (hset g 7 l v) 9 l 0) 10 l 0) 8 l u) (hset (hset (hset (hset w jb (30 + l) 0) jb (18 + l) v) jb (24 + l) u) jb (36 + l) 0) ja jb := by
  unfold JJ at hJ
  obtain ⟨⟨a0, a1, a2, a3, a4⟩, hb, hc, hd⟩ := hR
  have h9 : ¬ (0 : Int32) = 2 := by decide
  refine ⟨⟨?_, ?_, ?_, ?_, ?_⟩, fun k' hk' => ?_, fun l' hl' => ?_, fun j' hj' => ?_⟩
  · unfold hset; repeat' split
    all_goals first | assumption | rfl | omega
  · unfold hset; repeat' split
    all_goals first | assumption | rfl | omega
  · unfold hset; repeat' split
    all_goals first | assumption | rfl | omega
  · unfold hset; repeat' split
    all_goals first | assumption | rfl | omega
  · unfold hset; repeat' split
    all_goals first | assumption | rfl | omega
  · obtain ⟨b1, b2, b3, b4, b5, b6⟩ := hb k' hk'
    unfold hset
    refine ⟨?_, ?_, ?_, ?_, ?_, ?_⟩
    all_goals repeat' split
    all_goals first | assumption | rfl | omega
  · obtain ⟨c1, c2, c3, c4⟩ := hc l' hl'
    unfold hset
    refine ⟨?_, ?_, ?_, ?_⟩
    all_goals repeat' split
    all_goals first | assumption | rfl | omega | (intro e9; first | rfl | exact absurd e9 h9 | exact c4 e9 | omega) | skip
  · have d1 := hd j' hj'
    unfold hset
    repeat' split
    all_goals first | assumption | rfl | omega
theorem lp_drawn6_0 {H : Hv} {M N n : Nat} {s : Int32} (hn : n ≤ 60) : ∀ (m t X : Nat) (g : Hv) (c : Int32) (τ : Nat), t + m = n → X < 2 ^ 31 → HI M N g → g 0 1 = nI τ → τ + m ≤ 2000 → ∀ (y : Option Value), GdH M_X6_drawn 4 63 [some (.ref 0), some (.int (nI n)), some (.int s), some (.int 0), some (.ref 27), some (.long (lI X)), none, some (.int c), some (.int (nI t)), y] [] (pu H 27 g) (fun v' h' => v' = some (.int (dwS M N m X g c).2) ∧ ∃ g', h' = pu H 27 g') := by
  intro m
  induction m with
  | zero =>
    intro t X g c τ ht hX hI eτ hτ y
    refine g_iload d_X6_drawn_63 rfl ?_
    refine g_iload_n d_X6_drawn_65 rfl ?_
    refine g_icmp_ge d_X6_drawn_66 (fun c66 => ?_) (fun c66 => absurd (nI_le (a := n) (b := t) (by omega) (by omega)) c66)
    refine g_iload_n d_X6_drawn_122 rfl ?_
    refine g_if_ne d_X6_drawn_123 (fun c123 => absurd c123 (by decide)) (fun c123 => ?_)
    refine g_iload d_X6_drawn_126 rfl ?_
    refine g_goto d_X6_drawn_128 ?_
    refine h_iret d_X6_drawn_136 rfl ?_
    exact ⟨rfl, _, rfl⟩
  | succ m ih =>
    intro t X g c τ ht hX hI eτ hτ y
    have hId := hI.draw (X := nxt X) eτ (by omega)
    have hIt := hId.tickS
    refine g_iload d_X6_drawn_63 rfl ?_
    refine g_iload_n d_X6_drawn_65 rfl ?_
    refine g_icmp_ge d_X6_drawn_66 (fun c66 => absurd c66 (nI_ge (a := t) (b := n) (by omega) (by omega))) (fun c66 => ?_)
    refine g_lload d_X6_drawn_69 rfl ?_
    refine g_ldc2 d_X6_drawn_71 kl_X6_328 ?_
    refine g_lmul d_X6_drawn_74 ?_
    refine g_ldc2 d_X6_drawn_75 kl_X6_330 ?_
    refine g_lrem d_X6_drawn_78 (by decide) ?_
    rw [lI_nxt hX]
    refine w_lstore (L' := [_, _, _, _, _, _, _, _, _, _]) d_X6_drawn_79 rfl rfl rfl ?_
    refine g_aload d_X6_drawn_81 rfl ?_
    refine g_lload d_X6_drawn_83 rfl ?_
    refine g_l2i d_X6_drawn_85 ?_
    rw [lI_2i]
    refine h_V1v d_X6_drawn_86 cl_6_332 (m_draw hall_27 hI.hM hI.hM5 hI.hM0 hI.hN hI.hN6 hI.hN0 rfl (nxt_lt X)) (sp_hall hall_27) (by decide) rfl (Nat.le_of_ble_eq_true rfl) (by decide) ?_
    refine g_aload d_X6_drawn_89 rfl ?_
    refine g_iconst d_X6_drawn_91 ik_2 ?_
    refine h_V1i d_X6_drawn_92 cl_6_286 (m_howManyAre hall_27 hId.hN hId.hN6) (sp_hall hall_27) (by decide) rfl (Nat.le_of_ble_eq_true rfl) (by decide) ?_
    refine w_istore (L' := [_, _, _, _, _, _, _, _, _, _]) d_X6_drawn_95 rfl rfl rfl ?_
    refine g_aload d_X6_drawn_97 rfl ?_
    refine h_V0v d_X6_drawn_99 cl_6_164 (m_passTickI hall_27 hId) (sp_hall hall_27) (by decide) rfl (Nat.le_of_ble_eq_true rfl) (by decide) ?_
    refine g_iload d_X6_drawn_102 rfl ?_
    refine g_aload d_X6_drawn_104 rfl ?_
    refine g_iconst d_X6_drawn_106 ik_2 ?_
    refine h_V1i d_X6_drawn_107 cl_6_286 (m_howManyAre hall_27 hIt.hN hIt.hN6) (sp_hall hall_27) (by decide) rfl (Nat.le_of_ble_eq_true rfl) (by decide) ?_
    refine g_iload d_X6_drawn_110 rfl ?_
    refine g_isub d_X6_drawn_112 ?_
    refine g_iadd d_X6_drawn_113 ?_
    refine w_istore (L' := [_, _, _, _, _, _, _, _, _, _]) d_X6_drawn_114 rfl rfl rfl ?_
    refine w_iinc (L' := [_, _, _, _, _, _, _, _, _, _]) d_X6_drawn_116 ik_1 rfl rfl rfl rfl ?_
    refine g_goto d_X6_drawn_119 ?_
    rw [nI_1, cnt_tick hId]
    exact ih (t + 1) (nxt X) _ _ (τ + 1) (by omega) (nxt_lt X) hIt (by rw [tickS_01, draw_01, eτ, nI_1]) (by omega) _
theorem lp_drawn7_0 {h w : Hv} {M N n : Nat} {s : Int32} (wN : w 7 1 = nI N) (wM : w 7 0 = nI M) (hn : n ≤ 60) : ∀ (m t X : Nat) (g : Hv) (c : Int32) (τ : Nat) (w' : Hv), t + m = n → X < 2 ^ 31 → HI M N g → g 0 1 = nI τ → τ + m ≤ 2000 → RepM M N g w' 9 10 → FrS w w' → w' 0 21 = c → ∀ (y7 y8 y9 : Option Value), GdH M_X7_drawn 3 63 [some (.ref 360), some (.int (nI n)), some (.int s), some (.int 0), some (.long (lI X)), none, some (.int (nI t)), y7, y8, y9] [] (mu h w') (fun v' h' => v' = some (.int (dwS M N m X g c).2) ∧ ∃ w2, h' = mu h w2 ∧ FrS w w2) := by
  intro m
  induction m with
  | zero =>
    intro t X g c τ w' ht hX hI eτ hτ hr hf hc y7 y8 y9
    refine g_iload d_X7_drawn_63 rfl ?_
    refine g_iload_n d_X7_drawn_65 rfl ?_
    refine g_icmp_ge d_X7_drawn_66 (fun c66 => ?_) (fun c66 => absurd (nI_le (a := n) (b := t) (by omega) (by omega)) c66)
    refine g_iload_n d_X7_drawn_236 rfl ?_
    refine g_if_ne d_X7_drawn_237 (fun c237 => absurd c237 (by decide)) (fun c237 => ?_)
    refine g_aload_n d_X7_drawn_240 rfl ?_
    refine mm_getV (v := c) d_X7_drawn_241 fl_7_155 sp_M rfl (hc) ?_
    refine g_goto d_X7_drawn_244 ?_
    refine h_iret d_X7_drawn_255 rfl ?_
    exact ⟨rfl, _, rfl, hf⟩
  | succ m ih =>
    intro t X g c τ w' ht hX hI eτ hτ hr hf hc y7 y8 y9
    have hId := hI.draw (X := nxt X) eτ (by omega)
    have hIt := hId.tickS
    have hlN : nxt X % N < N := Nat.mod_lt _ hI.hN0
    have hN6 := hI.hN6
    have hM5 := hI.hM5
    refine g_iload d_X7_drawn_63 rfl ?_
    refine g_iload_n d_X7_drawn_65 rfl ?_
    refine g_icmp_ge d_X7_drawn_66 (fun c66 => absurd c66 (nI_ge (a := t) (b := n) (by omega) (by omega))) (fun c66 => ?_)
    refine g_lload d_X7_drawn_69 rfl ?_
    refine g_ldc2 d_X7_drawn_71 kl_X7_260 ?_
    refine g_lmul d_X7_drawn_74 ?_
    refine g_ldc2 d_X7_drawn_75 kl_X7_262 ?_
    refine g_lrem d_X7_drawn_78 (by decide) ?_
    rw [lI_nxt hX]
    refine w_lstore (L' := [_, _, _, _, _, _, _, _, _, _]) d_X7_drawn_79 rfl rfl rfl ?_
    refine g_lload d_X7_drawn_81 rfl ?_
    refine g_l2i d_X7_drawn_83 ?_
    rw [lI_2i]
    refine w_istore (L' := [_, _, _, _, _, _, _, _, _, _]) d_X7_drawn_84 rfl rfl rfl ?_
    refine g_iload d_X7_drawn_86 rfl ?_
    refine g_aload_n d_X7_drawn_88 rfl ?_
    refine h_getR d_X7_drawn_89 fl_7_28 sp_M rfl ?_
    refine g_iconst d_X7_drawn_92 ik_1 ?_
    refine mm_aldV (k := 1) (v := nI N) d_X7_drawn_93 (j := 7) sp_m_d rfl (by decide) rfl (by omega) (by decide) ((hf.w71 wN)) ?_
    refine g_irem d_X7_drawn_94 (nI_ne0 hI.hN0 (by omega)) ?_
    rw [show nI (nxt X) - nI (nxt X) / nI N * nI N = nI (nxt X % N) from pk_rem (nxt_lt X) hI.hN0 (by have := hI.hM5; have := hI.hN6; omega)]
    refine w_istore (L' := [_, _, _, _, _, _, _, _, _, _]) d_X7_drawn_95 rfl rfl rfl ?_
    refine g_aload_n d_X7_drawn_97 rfl ?_
    refine h_getR d_X7_drawn_98 fl_7_37 sp_M rfl ?_
    refine g_bipush d_X7_drawn_101 bk_30 ?_
    refine g_iload d_X7_drawn_103 rfl ?_
    refine g_iadd d_X7_drawn_105 ?_
    refine mm_aldV (k := (30 + (nxt X % N))) (v := g 9 (nxt X % N)) d_X7_drawn_106 (j := 10) sp_m_w rfl (by decide) (nAdd rfl rfl) (by omega) (by decide) ((hr.2.2.1 _ hlN).2.2.1.symm) ?_
    refine g_iconst d_X7_drawn_107 ik_2 ?_
    refine g_icmp_ne d_X7_drawn_108 (fun c108 => ?_) (fun c108 => ?_)
    · refine g_iload d_X7_drawn_191 rfl ?_
      refine g_iconst d_X7_drawn_193 ik_3 ?_
      refine g_irem d_X7_drawn_194 (by decide) ?_
      rw [show nI (nxt X) - nI (nxt X) / 3 * 3 = nI (nxt X % 3) from pk_rem (d := 3) (nxt_lt X) (by decide) (by decide)]
      refine g_if_ne d_X7_drawn_195 (fun c195 => ?_) (fun c195 => ?_)
      · have hrd : RepM M N (drawS g (nxt X) M N) w' 9 10 := by
          rw [show drawS g (nxt X) M N = g from (if_neg c108).trans (if_neg (fun z9 => absurd (show nI (nxt X % 3) = 0 by rw [z9]; rfl) c195))]
          exact hr
        refine g_aload_n d_X7_drawn_218 rfl ?_
        refine g_aload_n d_X7_drawn_219 rfl ?_
        refine h_getR d_X7_drawn_220 fl_7_34 sp_M rfl ?_
        refine g_aload_n d_X7_drawn_223 rfl ?_
        refine h_getR d_X7_drawn_224 fl_7_37 sp_M rfl ?_
        refine h_V2P d_X7_drawn_227 cl_7_174 (m7_ticksOne ar_e ar_w (Or.inr ⟨rfl, rfl⟩) hrd hId) sp_M (by decide) rfl (Nat.le_of_ble_eq_true rfl) (by decide) ?_
        intro v' h' hp
        obtain ⟨rfl, w2, rfl, hr2, hf2, hd2⟩ := hp
        refine w_iinc (L' := [_, _, _, _, _, _, _, _, _, _]) d_X7_drawn_230 ik_1 rfl rfl rfl rfl ?_
        refine g_goto d_X7_drawn_233 ?_
        rw [nI_1]
        refine ih (t + 1) (nxt X) _ _ (τ + 1) w2 (by omega) (nxt_lt X) hIt (by rw [tickS_01, draw_01, eτ, nI_1]) (by omega) hr2 ((hf.tr (FrS.rf (w := w'))).tr hf2.fs) ?_ _ _ _
        rw [hd2]
        repeat rw [hs_j (by decide)]
        rw [hc]
      · refine g_aload_n d_X7_drawn_198 rfl ?_
        refine h_getR d_X7_drawn_199 fl_7_37 sp_M rfl ?_
        refine g_iconst d_X7_drawn_202 ik_2 ?_
        refine g_dup2 d_X7_drawn_203 rfl rfl ?_
        refine mm_aldV (k := 2) (v := g 0 4) d_X7_drawn_204 (j := 10) sp_m_w rfl (by decide) rfl (by omega) (by decide) (hr.1.2.2.2.2.symm) ?_
        refine g_iconst d_X7_drawn_205 ik_1 ?_
        refine g_iload d_X7_drawn_206 rfl ?_
        refine g_aload_n d_X7_drawn_208 rfl ?_
        refine h_getR d_X7_drawn_209 fl_7_28 sp_M rfl ?_
        refine g_iconst d_X7_drawn_212 ik_0 ?_
        refine mm_aldV (k := 0) (v := nI M) d_X7_drawn_213 (j := 7) sp_m_d rfl (by decide) rfl (by omega) (by decide) (((hf 7 0 (by decide) (by decide) (by decide) (by decide) (by decide) (by omega)).trans wM)) ?_
        refine g_irem d_X7_drawn_214 (nI_ne0 hI.hM0 (by omega)) ?_
        rw [show nI (nxt X) - nI (nxt X) / nI M * nI M = nI (nxt X % M) from pk_rem (nxt_lt X) hI.hM0 (by have := hI.hM5; have := hI.hN6; omega)]
        refine g_ishl d_X7_drawn_215 ?_
        refine g_ixor d_X7_drawn_216 ?_
        refine mm_astE (k := 2) d_X7_drawn_217 (j := 10) sp_m_w rfl (by decide) rfl (by omega) (by decide) ?_
        have hrd : RepM M N (drawS g (nxt X) M N) (hset w' 10 2 (g 0 4 ^^^ 1 <<< (nI (nxt X % M) &&& 31))) 9 10 := by
          rw [show drawS g (nxt X) M N = hset g 0 4 (g 0 4 ^^^ 1 <<< (nI (nxt X % M) &&& 31)) from (if_neg c108).trans (if_pos (Decidable.byContradiction fun z9 => absurd c195 (nI_ne0 (by omega) (by omega))))]
          exact rep_04 hr (Or.inr ⟨rfl, rfl⟩) hI.hM5 hI.hN6
        refine g_aload_n d_X7_drawn_218 rfl ?_
        refine g_aload_n d_X7_drawn_219 rfl ?_
        refine h_getR d_X7_drawn_220 fl_7_34 sp_M rfl ?_
        refine g_aload_n d_X7_drawn_223 rfl ?_
        refine h_getR d_X7_drawn_224 fl_7_37 sp_M rfl ?_
        refine h_V2P d_X7_drawn_227 cl_7_174 (m7_ticksOne ar_e ar_w (Or.inr ⟨rfl, rfl⟩) hrd hId) sp_M (by decide) rfl (Nat.le_of_ble_eq_true rfl) (by decide) ?_
        intro v' h' hp
        obtain ⟨rfl, w2, rfl, hr2, hf2, hd2⟩ := hp
        refine w_iinc (L' := [_, _, _, _, _, _, _, _, _, _]) d_X7_drawn_230 ik_1 rfl rfl rfl rfl ?_
        refine g_goto d_X7_drawn_233 ?_
        rw [nI_1]
        refine ih (t + 1) (nxt X) _ _ (τ + 1) w2 (by omega) (nxt_lt X) hIt (by rw [tickS_01, draw_01, eτ, nI_1]) (by omega) hr2 ((hf.tr ((FrS.rf (w := w')).set (j := 10) (by omega))).tr hf2.fs) ?_ _ _ _
        rw [hd2]
        repeat rw [hs_j (by decide)]
        rw [hc]
    · refine g_aload_n d_X7_drawn_111 rfl ?_
      refine h_getR d_X7_drawn_112 fl_7_37 sp_M rfl ?_
      refine g_bipush d_X7_drawn_115 bk_30 ?_
      refine g_iload d_X7_drawn_117 rfl ?_
      refine g_iadd d_X7_drawn_119 ?_
      refine g_iconst d_X7_drawn_120 ik_0 ?_
      refine mm_astE (k := (30 + (nxt X % N))) d_X7_drawn_121 (j := 10) sp_m_w rfl (by decide) (nAdd rfl rfl) (by omega) (by decide) ?_
      refine g_aload_n d_X7_drawn_122 rfl ?_
      refine h_getR d_X7_drawn_123 fl_7_37 sp_M rfl ?_
      refine g_bipush d_X7_drawn_126 bk_18 ?_
      refine g_iload d_X7_drawn_128 rfl ?_
      refine g_iadd d_X7_drawn_130 ?_
      refine g_iload d_X7_drawn_131 rfl ?_
      refine g_bipush d_X7_drawn_133 bk_9 ?_
      refine g_irem d_X7_drawn_135 (by decide) ?_
      rw [show nI (nxt X) - nI (nxt X) / 9 * 9 = nI (nxt X % 9) from pk_rem (d := 9) (nxt_lt X) (by decide) (by decide)]
      refine g_iconst d_X7_drawn_136 ik_1 ?_
      refine g_iadd d_X7_drawn_137 ?_
      rw [nI_1]
      refine mm_astE (k := (18 + (nxt X % N))) d_X7_drawn_138 (j := 10) sp_m_w rfl (by decide) (nAdd rfl rfl) (by omega) (by decide) ?_
      refine g_aload_n d_X7_drawn_139 rfl ?_
      refine h_getR d_X7_drawn_140 fl_7_37 sp_M rfl ?_
      refine g_iconst d_X7_drawn_143 ik_0 ?_
      refine mm_aldV (k := 0) (v := nI τ) d_X7_drawn_144 (j := 10) sp_m_w rfl (by decide) rfl (by omega) (by decide) ((by rw [hs_b (by omega), hs_b (by omega)]; exact hr.1.2.1.symm.trans eτ)) ?_
      refine g_iload d_X7_drawn_145 rfl ?_
      refine g_bipush d_X7_drawn_147 bk_20 ?_
      refine g_irem d_X7_drawn_149 (by decide) ?_
      rw [show nI (nxt X) - nI (nxt X) / 20 * 20 = nI (nxt X % 20) from pk_rem (d := 20) (nxt_lt X) (by decide) (by decide)]
      refine g_iadd d_X7_drawn_150 ?_
      rw [nI_add]
      refine w_istore (L' := [_, _, _, _, _, _, _, _, _, _]) d_X7_drawn_151 rfl rfl rfl ?_
      refine g_aload_n d_X7_drawn_153 rfl ?_
      refine h_getR d_X7_drawn_154 fl_7_37 sp_M rfl ?_
      refine g_bipush d_X7_drawn_157 bk_24 ?_
      refine g_iload d_X7_drawn_159 rfl ?_
      refine g_iadd d_X7_drawn_161 ?_
      refine g_iload d_X7_drawn_162 rfl ?_
      refine g_bipush d_X7_drawn_164 bk_99 ?_
      refine g_icmp_le d_X7_drawn_166 (fun c166 => ?_) (fun c166 => ?_)
      · refine g_iload d_X7_drawn_174 rfl ?_
        refine mm_astE (k := (24 + (nxt X % N))) d_X7_drawn_176 (j := 10) sp_m_w rfl (by decide) (nAdd rfl rfl) (by omega) (by decide) ?_
        refine g_aload_n d_X7_drawn_177 rfl ?_
        refine h_getR d_X7_drawn_178 fl_7_37 sp_M rfl ?_
        refine g_bipush d_X7_drawn_181 bk_36 ?_
        refine g_iload d_X7_drawn_183 rfl ?_
        refine g_iadd d_X7_drawn_185 ?_
        refine g_iconst d_X7_drawn_186 ik_0 ?_
        refine mm_astE (k := (36 + (nxt X % N))) d_X7_drawn_187 (j := 10) sp_m_w rfl (by decide) (nAdd rfl rfl) (by omega) (by decide) ?_
        refine g_goto d_X7_drawn_188 ?_
        have hdu : (if g 0 1 + nI (nxt X % 20) < 99 then g 0 1 + nI (nxt X % 20) else 99) = nI (τ + nxt X % 20) := by
          rw [eτ, nI_add]
          by_cases z : τ + nxt X % 20 < 99
          · exact if_pos ((nI_ltI (a := τ + nxt X % 20) (b := 99) (by omega) (by decide)).mpr z)
          · rw [if_neg (show ¬ nI (τ + nxt X % 20) < (99 : Int32) from fun y => z ((nI_ltI (a := τ + nxt X % 20) (b := 99) (by omega) (by decide)).mp y))]
            have z2 : τ + nxt X % 20 = 99 := by
              rcases Nat.lt_or_ge 99 (τ + nxt X % 20) with y | y
              · exact absurd c166 (nI_ge (a := 99) (b := τ + nxt X % 20) y (by omega))
              · omega
            rw [z2]; rfl
        have hrd : RepM M N (drawS g (nxt X) M N) (hset (hset (hset (hset w' 10 (30 + nxt X % N) 0) 10 (18 + nxt X % N) (nI (nxt X % 9 + 1))) 10 (24 + nxt X % N) (nI (τ + nxt X % 20))) 10 (36 + nxt X % N) 0) 9 10 := by
          rw [show drawS g (nxt X) M N = hset (hset (hset (hset g 7 (nxt X % N) (nI (nxt X % 9 + 1))) 9 (nxt X % N) 0) 10 (nxt X % N) 0) 8 (nxt X % N) (if g 0 1 + nI (nxt X % 20) < 99 then g 0 1 + nI (nxt X % 20) else 99) from if_pos c108, hdu]
          exact rep_dw hr (Or.inr ⟨rfl, rfl⟩) hI.hM5 hI.hN6 hlN
        refine g_aload_n d_X7_drawn_218 rfl ?_
        refine g_aload_n d_X7_drawn_219 rfl ?_
        refine h_getR d_X7_drawn_220 fl_7_34 sp_M rfl ?_
        refine g_aload_n d_X7_drawn_223 rfl ?_
        refine h_getR d_X7_drawn_224 fl_7_37 sp_M rfl ?_
        refine h_V2P d_X7_drawn_227 cl_7_174 (m7_ticksOne ar_e ar_w (Or.inr ⟨rfl, rfl⟩) hrd hId) sp_M (by decide) rfl (Nat.le_of_ble_eq_true rfl) (by decide) ?_
        intro v' h' hp
        obtain ⟨rfl, w2, rfl, hr2, hf2, hd2⟩ := hp
        refine w_iinc (L' := [_, _, _, _, _, _, _, _, _, _]) d_X7_drawn_230 ik_1 rfl rfl rfl rfl ?_
        refine g_goto d_X7_drawn_233 ?_
        rw [nI_1]
        refine ih (t + 1) (nxt X) _ _ (τ + 1) w2 (by omega) (nxt_lt X) hIt (by rw [tickS_01, draw_01, eτ, nI_1]) (by omega) hr2 ((hf.tr (((((FrS.rf (w := w')).set (j := 10) (by omega)).set (j := 10) (by omega)).set (j := 10) (by omega)).set (j := 10) (by omega))).tr hf2.fs) ?_ _ _ _
        rw [hd2]
        repeat rw [hs_j (by decide)]
        rw [hc]
      · refine g_bipush d_X7_drawn_169 bk_99 ?_
        refine g_goto d_X7_drawn_171 ?_
        refine mm_astE (k := (24 + (nxt X % N))) d_X7_drawn_176 (j := 10) sp_m_w rfl (by decide) (nAdd rfl rfl) (by omega) (by decide) ?_
        refine g_aload_n d_X7_drawn_177 rfl ?_
        refine h_getR d_X7_drawn_178 fl_7_37 sp_M rfl ?_
        refine g_bipush d_X7_drawn_181 bk_36 ?_
        refine g_iload d_X7_drawn_183 rfl ?_
        refine g_iadd d_X7_drawn_185 ?_
        refine g_iconst d_X7_drawn_186 ik_0 ?_
        refine mm_astE (k := (36 + (nxt X % N))) d_X7_drawn_187 (j := 10) sp_m_w rfl (by decide) (nAdd rfl rfl) (by omega) (by decide) ?_
        refine g_goto d_X7_drawn_188 ?_
        have hdu : (if g 0 1 + nI (nxt X % 20) < 99 then g 0 1 + nI (nxt X % 20) else 99) = 99 := by
          rw [eτ, nI_add]
          exact if_neg (fun y => c166 (Int32.le_of_lt y))
        have hrd : RepM M N (drawS g (nxt X) M N) (hset (hset (hset (hset w' 10 (30 + nxt X % N) 0) 10 (18 + nxt X % N) (nI (nxt X % 9 + 1))) 10 (24 + nxt X % N) (99)) 10 (36 + nxt X % N) 0) 9 10 := by
          rw [show drawS g (nxt X) M N = hset (hset (hset (hset g 7 (nxt X % N) (nI (nxt X % 9 + 1))) 9 (nxt X % N) 0) 10 (nxt X % N) 0) 8 (nxt X % N) (if g 0 1 + nI (nxt X % 20) < 99 then g 0 1 + nI (nxt X % 20) else 99) from if_pos c108, hdu]
          exact rep_dw hr (Or.inr ⟨rfl, rfl⟩) hI.hM5 hI.hN6 hlN
        refine g_aload_n d_X7_drawn_218 rfl ?_
        refine g_aload_n d_X7_drawn_219 rfl ?_
        refine h_getR d_X7_drawn_220 fl_7_34 sp_M rfl ?_
        refine g_aload_n d_X7_drawn_223 rfl ?_
        refine h_getR d_X7_drawn_224 fl_7_37 sp_M rfl ?_
        refine h_V2P d_X7_drawn_227 cl_7_174 (m7_ticksOne ar_e ar_w (Or.inr ⟨rfl, rfl⟩) hrd hId) sp_M (by decide) rfl (Nat.le_of_ble_eq_true rfl) (by decide) ?_
        intro v' h' hp
        obtain ⟨rfl, w2, rfl, hr2, hf2, hd2⟩ := hp
        refine w_iinc (L' := [_, _, _, _, _, _, _, _, _, _]) d_X7_drawn_230 ik_1 rfl rfl rfl rfl ?_
        refine g_goto d_X7_drawn_233 ?_
        rw [nI_1]
        refine ih (t + 1) (nxt X) _ _ (τ + 1) w2 (by omega) (nxt_lt X) hIt (by rw [tickS_01, draw_01, eτ, nI_1]) (by omega) hr2 ((hf.tr (((((FrS.rf (w := w')).set (j := 10) (by omega)).set (j := 10) (by omega)).set (j := 10) (by omega)).set (j := 10) (by omega))).tr hf2.fs) ?_ _ _ _
        rw [hd2]
        repeat rw [hs_j (by decide)]
        rw [hc]
theorem lp_drawn6_1 {H : Hv} {M N n : Nat} {s : Int32} (hn : n ≤ 60) : ∀ (m t X : Nat) (g : Hv) (c : Int32) (τ : Nat), t + m = n → X < 2 ^ 31 → HI M N g → g 0 1 = nI τ → τ + m ≤ 2000 → ∀ (y : Option Value), GdH M_X6_drawn 4 63 [some (.ref 0), some (.int (nI n)), some (.int s), some (.int 1), some (.ref 27), some (.long (lI X)), none, some (.int c), some (.int (nI t)), y] [] (pu H 27 g) (fun v' h' => v' = some (.int (lateAllS (dwS M N m X g c).1 N)) ∧ ∃ g', h' = pu H 27 g') := by
  intro m
  induction m with
  | zero =>
    intro t X g c τ ht hX hI eτ hτ y
    refine g_iload d_X6_drawn_63 rfl ?_
    refine g_iload_n d_X6_drawn_65 rfl ?_
    refine g_icmp_ge d_X6_drawn_66 (fun c66 => ?_) (fun c66 => absurd (nI_le (a := n) (b := t) (by omega) (by omega)) c66)
    refine g_iload_n d_X6_drawn_122 rfl ?_
    refine g_if_ne d_X6_drawn_123 (fun c123 => ?_) (fun c123 => absurd c123 (by decide))
    refine g_aload d_X6_drawn_131 rfl ?_
    refine h_V0i d_X6_drawn_133 cl_6_239 (m_lateOfAll hall_27 hI.hN hI.hN6) (sp_hall hall_27) (by decide) rfl (Nat.le_of_ble_eq_true rfl) (by decide) ?_
    refine h_iret d_X6_drawn_136 rfl ?_
    exact ⟨rfl, _, rfl⟩
  | succ m ih =>
    intro t X g c τ ht hX hI eτ hτ y
    have hId := hI.draw (X := nxt X) eτ (by omega)
    have hIt := hId.tickS
    refine g_iload d_X6_drawn_63 rfl ?_
    refine g_iload_n d_X6_drawn_65 rfl ?_
    refine g_icmp_ge d_X6_drawn_66 (fun c66 => absurd c66 (nI_ge (a := t) (b := n) (by omega) (by omega))) (fun c66 => ?_)
    refine g_lload d_X6_drawn_69 rfl ?_
    refine g_ldc2 d_X6_drawn_71 kl_X6_328 ?_
    refine g_lmul d_X6_drawn_74 ?_
    refine g_ldc2 d_X6_drawn_75 kl_X6_330 ?_
    refine g_lrem d_X6_drawn_78 (by decide) ?_
    rw [lI_nxt hX]
    refine w_lstore (L' := [_, _, _, _, _, _, _, _, _, _]) d_X6_drawn_79 rfl rfl rfl ?_
    refine g_aload d_X6_drawn_81 rfl ?_
    refine g_lload d_X6_drawn_83 rfl ?_
    refine g_l2i d_X6_drawn_85 ?_
    rw [lI_2i]
    refine h_V1v d_X6_drawn_86 cl_6_332 (m_draw hall_27 hI.hM hI.hM5 hI.hM0 hI.hN hI.hN6 hI.hN0 rfl (nxt_lt X)) (sp_hall hall_27) (by decide) rfl (Nat.le_of_ble_eq_true rfl) (by decide) ?_
    refine g_aload d_X6_drawn_89 rfl ?_
    refine g_iconst d_X6_drawn_91 ik_2 ?_
    refine h_V1i d_X6_drawn_92 cl_6_286 (m_howManyAre hall_27 hId.hN hId.hN6) (sp_hall hall_27) (by decide) rfl (Nat.le_of_ble_eq_true rfl) (by decide) ?_
    refine w_istore (L' := [_, _, _, _, _, _, _, _, _, _]) d_X6_drawn_95 rfl rfl rfl ?_
    refine g_aload d_X6_drawn_97 rfl ?_
    refine h_V0v d_X6_drawn_99 cl_6_164 (m_passTickI hall_27 hId) (sp_hall hall_27) (by decide) rfl (Nat.le_of_ble_eq_true rfl) (by decide) ?_
    refine g_iload d_X6_drawn_102 rfl ?_
    refine g_aload d_X6_drawn_104 rfl ?_
    refine g_iconst d_X6_drawn_106 ik_2 ?_
    refine h_V1i d_X6_drawn_107 cl_6_286 (m_howManyAre hall_27 hIt.hN hIt.hN6) (sp_hall hall_27) (by decide) rfl (Nat.le_of_ble_eq_true rfl) (by decide) ?_
    refine g_iload d_X6_drawn_110 rfl ?_
    refine g_isub d_X6_drawn_112 ?_
    refine g_iadd d_X6_drawn_113 ?_
    refine w_istore (L' := [_, _, _, _, _, _, _, _, _, _]) d_X6_drawn_114 rfl rfl rfl ?_
    refine w_iinc (L' := [_, _, _, _, _, _, _, _, _, _]) d_X6_drawn_116 ik_1 rfl rfl rfl rfl ?_
    refine g_goto d_X6_drawn_119 ?_
    rw [nI_1, cnt_tick hId]
    exact ih (t + 1) (nxt X) _ _ (τ + 1) (by omega) (nxt_lt X) hIt (by rw [tickS_01, draw_01, eτ, nI_1]) (by omega) _
theorem lp_drawn7_1 {h w : Hv} {M N n : Nat} {s : Int32} (wN : w 7 1 = nI N) (wM : w 7 0 = nI M) (hn : n ≤ 60) : ∀ (m t X : Nat) (g : Hv) (c : Int32) (τ : Nat) (w' : Hv), t + m = n → X < 2 ^ 31 → HI M N g → g 0 1 = nI τ → τ + m ≤ 2000 → RepM M N g w' 9 10 → FrS w w' → w' 0 21 = c → ∀ (y7 y8 y9 : Option Value), GdH M_X7_drawn 3 63 [some (.ref 360), some (.int (nI n)), some (.int s), some (.int 1), some (.long (lI X)), none, some (.int (nI t)), y7, y8, y9] [] (mu h w') (fun v' h' => v' = some (.int (lateAllS (dwS M N m X g c).1 N)) ∧ ∃ w2, h' = mu h w2 ∧ FrS w w2) := by
  intro m
  induction m with
  | zero =>
    intro t X g c τ w' ht hX hI eτ hτ hr hf hc y7 y8 y9
    refine g_iload d_X7_drawn_63 rfl ?_
    refine g_iload_n d_X7_drawn_65 rfl ?_
    refine g_icmp_ge d_X7_drawn_66 (fun c66 => ?_) (fun c66 => absurd (nI_le (a := n) (b := t) (by omega) (by omega)) c66)
    refine g_iload_n d_X7_drawn_236 rfl ?_
    refine g_if_ne d_X7_drawn_237 (fun c237 => ?_) (fun c237 => absurd c237 (by decide))
    refine g_aload_n d_X7_drawn_247 rfl ?_
    refine g_aload_n d_X7_drawn_248 rfl ?_
    refine h_getR d_X7_drawn_249 fl_7_37 sp_M rfl ?_
    refine h_V1i d_X7_drawn_252 cl_7_215 (m7_lateAll ar_w hr.r0 hI.hN6 (hf.w71 wN)) sp_M (by decide) rfl (Nat.le_of_ble_eq_true rfl) (by decide) ?_
    refine h_iret d_X7_drawn_255 rfl ?_
    exact ⟨rfl, _, rfl, hf⟩
  | succ m ih =>
    intro t X g c τ w' ht hX hI eτ hτ hr hf hc y7 y8 y9
    have hId := hI.draw (X := nxt X) eτ (by omega)
    have hIt := hId.tickS
    have hlN : nxt X % N < N := Nat.mod_lt _ hI.hN0
    have hN6 := hI.hN6
    have hM5 := hI.hM5
    refine g_iload d_X7_drawn_63 rfl ?_
    refine g_iload_n d_X7_drawn_65 rfl ?_
    refine g_icmp_ge d_X7_drawn_66 (fun c66 => absurd c66 (nI_ge (a := t) (b := n) (by omega) (by omega))) (fun c66 => ?_)
    refine g_lload d_X7_drawn_69 rfl ?_
    refine g_ldc2 d_X7_drawn_71 kl_X7_260 ?_
    refine g_lmul d_X7_drawn_74 ?_
    refine g_ldc2 d_X7_drawn_75 kl_X7_262 ?_
    refine g_lrem d_X7_drawn_78 (by decide) ?_
    rw [lI_nxt hX]
    refine w_lstore (L' := [_, _, _, _, _, _, _, _, _, _]) d_X7_drawn_79 rfl rfl rfl ?_
    refine g_lload d_X7_drawn_81 rfl ?_
    refine g_l2i d_X7_drawn_83 ?_
    rw [lI_2i]
    refine w_istore (L' := [_, _, _, _, _, _, _, _, _, _]) d_X7_drawn_84 rfl rfl rfl ?_
    refine g_iload d_X7_drawn_86 rfl ?_
    refine g_aload_n d_X7_drawn_88 rfl ?_
    refine h_getR d_X7_drawn_89 fl_7_28 sp_M rfl ?_
    refine g_iconst d_X7_drawn_92 ik_1 ?_
    refine mm_aldV (k := 1) (v := nI N) d_X7_drawn_93 (j := 7) sp_m_d rfl (by decide) rfl (by omega) (by decide) ((hf.w71 wN)) ?_
    refine g_irem d_X7_drawn_94 (nI_ne0 hI.hN0 (by omega)) ?_
    rw [show nI (nxt X) - nI (nxt X) / nI N * nI N = nI (nxt X % N) from pk_rem (nxt_lt X) hI.hN0 (by have := hI.hM5; have := hI.hN6; omega)]
    refine w_istore (L' := [_, _, _, _, _, _, _, _, _, _]) d_X7_drawn_95 rfl rfl rfl ?_
    refine g_aload_n d_X7_drawn_97 rfl ?_
    refine h_getR d_X7_drawn_98 fl_7_37 sp_M rfl ?_
    refine g_bipush d_X7_drawn_101 bk_30 ?_
    refine g_iload d_X7_drawn_103 rfl ?_
    refine g_iadd d_X7_drawn_105 ?_
    refine mm_aldV (k := (30 + (nxt X % N))) (v := g 9 (nxt X % N)) d_X7_drawn_106 (j := 10) sp_m_w rfl (by decide) (nAdd rfl rfl) (by omega) (by decide) ((hr.2.2.1 _ hlN).2.2.1.symm) ?_
    refine g_iconst d_X7_drawn_107 ik_2 ?_
    refine g_icmp_ne d_X7_drawn_108 (fun c108 => ?_) (fun c108 => ?_)
    · refine g_iload d_X7_drawn_191 rfl ?_
      refine g_iconst d_X7_drawn_193 ik_3 ?_
      refine g_irem d_X7_drawn_194 (by decide) ?_
      rw [show nI (nxt X) - nI (nxt X) / 3 * 3 = nI (nxt X % 3) from pk_rem (d := 3) (nxt_lt X) (by decide) (by decide)]
      refine g_if_ne d_X7_drawn_195 (fun c195 => ?_) (fun c195 => ?_)
      · have hrd : RepM M N (drawS g (nxt X) M N) w' 9 10 := by
          rw [show drawS g (nxt X) M N = g from (if_neg c108).trans (if_neg (fun z9 => absurd (show nI (nxt X % 3) = 0 by rw [z9]; rfl) c195))]
          exact hr
        refine g_aload_n d_X7_drawn_218 rfl ?_
        refine g_aload_n d_X7_drawn_219 rfl ?_
        refine h_getR d_X7_drawn_220 fl_7_34 sp_M rfl ?_
        refine g_aload_n d_X7_drawn_223 rfl ?_
        refine h_getR d_X7_drawn_224 fl_7_37 sp_M rfl ?_
        refine h_V2P d_X7_drawn_227 cl_7_174 (m7_ticksOne ar_e ar_w (Or.inr ⟨rfl, rfl⟩) hrd hId) sp_M (by decide) rfl (Nat.le_of_ble_eq_true rfl) (by decide) ?_
        intro v' h' hp
        obtain ⟨rfl, w2, rfl, hr2, hf2, hd2⟩ := hp
        refine w_iinc (L' := [_, _, _, _, _, _, _, _, _, _]) d_X7_drawn_230 ik_1 rfl rfl rfl rfl ?_
        refine g_goto d_X7_drawn_233 ?_
        rw [nI_1]
        refine ih (t + 1) (nxt X) _ _ (τ + 1) w2 (by omega) (nxt_lt X) hIt (by rw [tickS_01, draw_01, eτ, nI_1]) (by omega) hr2 ((hf.tr (FrS.rf (w := w'))).tr hf2.fs) ?_ _ _ _
        rw [hd2]
        repeat rw [hs_j (by decide)]
        rw [hc]
      · refine g_aload_n d_X7_drawn_198 rfl ?_
        refine h_getR d_X7_drawn_199 fl_7_37 sp_M rfl ?_
        refine g_iconst d_X7_drawn_202 ik_2 ?_
        refine g_dup2 d_X7_drawn_203 rfl rfl ?_
        refine mm_aldV (k := 2) (v := g 0 4) d_X7_drawn_204 (j := 10) sp_m_w rfl (by decide) rfl (by omega) (by decide) (hr.1.2.2.2.2.symm) ?_
        refine g_iconst d_X7_drawn_205 ik_1 ?_
        refine g_iload d_X7_drawn_206 rfl ?_
        refine g_aload_n d_X7_drawn_208 rfl ?_
        refine h_getR d_X7_drawn_209 fl_7_28 sp_M rfl ?_
        refine g_iconst d_X7_drawn_212 ik_0 ?_
        refine mm_aldV (k := 0) (v := nI M) d_X7_drawn_213 (j := 7) sp_m_d rfl (by decide) rfl (by omega) (by decide) (((hf 7 0 (by decide) (by decide) (by decide) (by decide) (by decide) (by omega)).trans wM)) ?_
        refine g_irem d_X7_drawn_214 (nI_ne0 hI.hM0 (by omega)) ?_
        rw [show nI (nxt X) - nI (nxt X) / nI M * nI M = nI (nxt X % M) from pk_rem (nxt_lt X) hI.hM0 (by have := hI.hM5; have := hI.hN6; omega)]
        refine g_ishl d_X7_drawn_215 ?_
        refine g_ixor d_X7_drawn_216 ?_
        refine mm_astE (k := 2) d_X7_drawn_217 (j := 10) sp_m_w rfl (by decide) rfl (by omega) (by decide) ?_
        have hrd : RepM M N (drawS g (nxt X) M N) (hset w' 10 2 (g 0 4 ^^^ 1 <<< (nI (nxt X % M) &&& 31))) 9 10 := by
          rw [show drawS g (nxt X) M N = hset g 0 4 (g 0 4 ^^^ 1 <<< (nI (nxt X % M) &&& 31)) from (if_neg c108).trans (if_pos (Decidable.byContradiction fun z9 => absurd c195 (nI_ne0 (by omega) (by omega))))]
          exact rep_04 hr (Or.inr ⟨rfl, rfl⟩) hI.hM5 hI.hN6
        refine g_aload_n d_X7_drawn_218 rfl ?_
        refine g_aload_n d_X7_drawn_219 rfl ?_
        refine h_getR d_X7_drawn_220 fl_7_34 sp_M rfl ?_
        refine g_aload_n d_X7_drawn_223 rfl ?_
        refine h_getR d_X7_drawn_224 fl_7_37 sp_M rfl ?_
        refine h_V2P d_X7_drawn_227 cl_7_174 (m7_ticksOne ar_e ar_w (Or.inr ⟨rfl, rfl⟩) hrd hId) sp_M (by decide) rfl (Nat.le_of_ble_eq_true rfl) (by decide) ?_
        intro v' h' hp
        obtain ⟨rfl, w2, rfl, hr2, hf2, hd2⟩ := hp
        refine w_iinc (L' := [_, _, _, _, _, _, _, _, _, _]) d_X7_drawn_230 ik_1 rfl rfl rfl rfl ?_
        refine g_goto d_X7_drawn_233 ?_
        rw [nI_1]
        refine ih (t + 1) (nxt X) _ _ (τ + 1) w2 (by omega) (nxt_lt X) hIt (by rw [tickS_01, draw_01, eτ, nI_1]) (by omega) hr2 ((hf.tr ((FrS.rf (w := w')).set (j := 10) (by omega))).tr hf2.fs) ?_ _ _ _
        rw [hd2]
        repeat rw [hs_j (by decide)]
        rw [hc]
    · refine g_aload_n d_X7_drawn_111 rfl ?_
      refine h_getR d_X7_drawn_112 fl_7_37 sp_M rfl ?_
      refine g_bipush d_X7_drawn_115 bk_30 ?_
      refine g_iload d_X7_drawn_117 rfl ?_
      refine g_iadd d_X7_drawn_119 ?_
      refine g_iconst d_X7_drawn_120 ik_0 ?_
      refine mm_astE (k := (30 + (nxt X % N))) d_X7_drawn_121 (j := 10) sp_m_w rfl (by decide) (nAdd rfl rfl) (by omega) (by decide) ?_
      refine g_aload_n d_X7_drawn_122 rfl ?_
      refine h_getR d_X7_drawn_123 fl_7_37 sp_M rfl ?_
      refine g_bipush d_X7_drawn_126 bk_18 ?_
      refine g_iload d_X7_drawn_128 rfl ?_
      refine g_iadd d_X7_drawn_130 ?_
      refine g_iload d_X7_drawn_131 rfl ?_
      refine g_bipush d_X7_drawn_133 bk_9 ?_
      refine g_irem d_X7_drawn_135 (by decide) ?_
      rw [show nI (nxt X) - nI (nxt X) / 9 * 9 = nI (nxt X % 9) from pk_rem (d := 9) (nxt_lt X) (by decide) (by decide)]
      refine g_iconst d_X7_drawn_136 ik_1 ?_
      refine g_iadd d_X7_drawn_137 ?_
      rw [nI_1]
      refine mm_astE (k := (18 + (nxt X % N))) d_X7_drawn_138 (j := 10) sp_m_w rfl (by decide) (nAdd rfl rfl) (by omega) (by decide) ?_
      refine g_aload_n d_X7_drawn_139 rfl ?_
      refine h_getR d_X7_drawn_140 fl_7_37 sp_M rfl ?_
      refine g_iconst d_X7_drawn_143 ik_0 ?_
      refine mm_aldV (k := 0) (v := nI τ) d_X7_drawn_144 (j := 10) sp_m_w rfl (by decide) rfl (by omega) (by decide) ((by rw [hs_b (by omega), hs_b (by omega)]; exact hr.1.2.1.symm.trans eτ)) ?_
      refine g_iload d_X7_drawn_145 rfl ?_
      refine g_bipush d_X7_drawn_147 bk_20 ?_
      refine g_irem d_X7_drawn_149 (by decide) ?_
      rw [show nI (nxt X) - nI (nxt X) / 20 * 20 = nI (nxt X % 20) from pk_rem (d := 20) (nxt_lt X) (by decide) (by decide)]
      refine g_iadd d_X7_drawn_150 ?_
      rw [nI_add]
      refine w_istore (L' := [_, _, _, _, _, _, _, _, _, _]) d_X7_drawn_151 rfl rfl rfl ?_
      refine g_aload_n d_X7_drawn_153 rfl ?_
      refine h_getR d_X7_drawn_154 fl_7_37 sp_M rfl ?_
      refine g_bipush d_X7_drawn_157 bk_24 ?_
      refine g_iload d_X7_drawn_159 rfl ?_
      refine g_iadd d_X7_drawn_161 ?_
      refine g_iload d_X7_drawn_162 rfl ?_
      refine g_bipush d_X7_drawn_164 bk_99 ?_
      refine g_icmp_le d_X7_drawn_166 (fun c166 => ?_) (fun c166 => ?_)
      · refine g_iload d_X7_drawn_174 rfl ?_
        refine mm_astE (k := (24 + (nxt X % N))) d_X7_drawn_176 (j := 10) sp_m_w rfl (by decide) (nAdd rfl rfl) (by omega) (by decide) ?_
        refine g_aload_n d_X7_drawn_177 rfl ?_
        refine h_getR d_X7_drawn_178 fl_7_37 sp_M rfl ?_
        refine g_bipush d_X7_drawn_181 bk_36 ?_
        refine g_iload d_X7_drawn_183 rfl ?_
        refine g_iadd d_X7_drawn_185 ?_
        refine g_iconst d_X7_drawn_186 ik_0 ?_
        refine mm_astE (k := (36 + (nxt X % N))) d_X7_drawn_187 (j := 10) sp_m_w rfl (by decide) (nAdd rfl rfl) (by omega) (by decide) ?_
        refine g_goto d_X7_drawn_188 ?_
        have hdu : (if g 0 1 + nI (nxt X % 20) < 99 then g 0 1 + nI (nxt X % 20) else 99) = nI (τ + nxt X % 20) := by
          rw [eτ, nI_add]
          by_cases z : τ + nxt X % 20 < 99
          · exact if_pos ((nI_ltI (a := τ + nxt X % 20) (b := 99) (by omega) (by decide)).mpr z)
          · rw [if_neg (show ¬ nI (τ + nxt X % 20) < (99 : Int32) from fun y => z ((nI_ltI (a := τ + nxt X % 20) (b := 99) (by omega) (by decide)).mp y))]
            have z2 : τ + nxt X % 20 = 99 := by
              rcases Nat.lt_or_ge 99 (τ + nxt X % 20) with y | y
              · exact absurd c166 (nI_ge (a := 99) (b := τ + nxt X % 20) y (by omega))
              · omega
            rw [z2]; rfl
        have hrd : RepM M N (drawS g (nxt X) M N) (hset (hset (hset (hset w' 10 (30 + nxt X % N) 0) 10 (18 + nxt X % N) (nI (nxt X % 9 + 1))) 10 (24 + nxt X % N) (nI (τ + nxt X % 20))) 10 (36 + nxt X % N) 0) 9 10 := by
          rw [show drawS g (nxt X) M N = hset (hset (hset (hset g 7 (nxt X % N) (nI (nxt X % 9 + 1))) 9 (nxt X % N) 0) 10 (nxt X % N) 0) 8 (nxt X % N) (if g 0 1 + nI (nxt X % 20) < 99 then g 0 1 + nI (nxt X % 20) else 99) from if_pos c108, hdu]
          exact rep_dw hr (Or.inr ⟨rfl, rfl⟩) hI.hM5 hI.hN6 hlN
        refine g_aload_n d_X7_drawn_218 rfl ?_
        refine g_aload_n d_X7_drawn_219 rfl ?_
        refine h_getR d_X7_drawn_220 fl_7_34 sp_M rfl ?_
        refine g_aload_n d_X7_drawn_223 rfl ?_
        refine h_getR d_X7_drawn_224 fl_7_37 sp_M rfl ?_
        refine h_V2P d_X7_drawn_227 cl_7_174 (m7_ticksOne ar_e ar_w (Or.inr ⟨rfl, rfl⟩) hrd hId) sp_M (by decide) rfl (Nat.le_of_ble_eq_true rfl) (by decide) ?_
        intro v' h' hp
        obtain ⟨rfl, w2, rfl, hr2, hf2, hd2⟩ := hp
        refine w_iinc (L' := [_, _, _, _, _, _, _, _, _, _]) d_X7_drawn_230 ik_1 rfl rfl rfl rfl ?_
        refine g_goto d_X7_drawn_233 ?_
        rw [nI_1]
        refine ih (t + 1) (nxt X) _ _ (τ + 1) w2 (by omega) (nxt_lt X) hIt (by rw [tickS_01, draw_01, eτ, nI_1]) (by omega) hr2 ((hf.tr (((((FrS.rf (w := w')).set (j := 10) (by omega)).set (j := 10) (by omega)).set (j := 10) (by omega)).set (j := 10) (by omega))).tr hf2.fs) ?_ _ _ _
        rw [hd2]
        repeat rw [hs_j (by decide)]
        rw [hc]
      · refine g_bipush d_X7_drawn_169 bk_99 ?_
        refine g_goto d_X7_drawn_171 ?_
        refine mm_astE (k := (24 + (nxt X % N))) d_X7_drawn_176 (j := 10) sp_m_w rfl (by decide) (nAdd rfl rfl) (by omega) (by decide) ?_
        refine g_aload_n d_X7_drawn_177 rfl ?_
        refine h_getR d_X7_drawn_178 fl_7_37 sp_M rfl ?_
        refine g_bipush d_X7_drawn_181 bk_36 ?_
        refine g_iload d_X7_drawn_183 rfl ?_
        refine g_iadd d_X7_drawn_185 ?_
        refine g_iconst d_X7_drawn_186 ik_0 ?_
        refine mm_astE (k := (36 + (nxt X % N))) d_X7_drawn_187 (j := 10) sp_m_w rfl (by decide) (nAdd rfl rfl) (by omega) (by decide) ?_
        refine g_goto d_X7_drawn_188 ?_
        have hdu : (if g 0 1 + nI (nxt X % 20) < 99 then g 0 1 + nI (nxt X % 20) else 99) = 99 := by
          rw [eτ, nI_add]
          exact if_neg (fun y => c166 (Int32.le_of_lt y))
        have hrd : RepM M N (drawS g (nxt X) M N) (hset (hset (hset (hset w' 10 (30 + nxt X % N) 0) 10 (18 + nxt X % N) (nI (nxt X % 9 + 1))) 10 (24 + nxt X % N) (99)) 10 (36 + nxt X % N) 0) 9 10 := by
          rw [show drawS g (nxt X) M N = hset (hset (hset (hset g 7 (nxt X % N) (nI (nxt X % 9 + 1))) 9 (nxt X % N) 0) 10 (nxt X % N) 0) 8 (nxt X % N) (if g 0 1 + nI (nxt X % 20) < 99 then g 0 1 + nI (nxt X % 20) else 99) from if_pos c108, hdu]
          exact rep_dw hr (Or.inr ⟨rfl, rfl⟩) hI.hM5 hI.hN6 hlN
        refine g_aload_n d_X7_drawn_218 rfl ?_
        refine g_aload_n d_X7_drawn_219 rfl ?_
        refine h_getR d_X7_drawn_220 fl_7_34 sp_M rfl ?_
        refine g_aload_n d_X7_drawn_223 rfl ?_
        refine h_getR d_X7_drawn_224 fl_7_37 sp_M rfl ?_
        refine h_V2P d_X7_drawn_227 cl_7_174 (m7_ticksOne ar_e ar_w (Or.inr ⟨rfl, rfl⟩) hrd hId) sp_M (by decide) rfl (Nat.le_of_ble_eq_true rfl) (by decide) ?_
        intro v' h' hp
        obtain ⟨rfl, w2, rfl, hr2, hf2, hd2⟩ := hp
        refine w_iinc (L' := [_, _, _, _, _, _, _, _, _, _]) d_X7_drawn_230 ik_1 rfl rfl rfl rfl ?_
        refine g_goto d_X7_drawn_233 ?_
        rw [nI_1]
        refine ih (t + 1) (nxt X) _ _ (τ + 1) w2 (by omega) (nxt_lt X) hIt (by rw [tickS_01, draw_01, eτ, nI_1]) (by omega) hr2 ((hf.tr (((((FrS.rf (w := w')).set (j := 10) (by omega)).set (j := 10) (by omega)).set (j := 10) (by omega)).set (j := 10) (by omega))).tr hf2.fs) ?_ _ _ _
        rw [hd2]
        repeat rw [hs_j (by decide)]
        rw [hc]
theorem op_drawn {h w : Hv} (hR : RelP h w) {x y u : Int32} : OPI M_X6_drawn M_X7_drawn 4 3 [.int x, .int y, .int u] (mu h w) := by
  obtain ⟨M, N, hM5, hN6, gM, wM, gN, wN, hZ⟩ := hR.mn
  have eM : (nI M).toInt = M := nI_toInt (by omega)
  have eN : (nI N).toInt = N := nI_toInt (by omega)
  have eM1 := nI_predI (t := M) (by omega)
  have eN1 := nI_predI (t := N) (by omega)
  refine MtH.of [some (.ref 0), some (.int x), some (.int y), some (.int u), none, none, none, none, none, none] pl_X6 rfl rfl ?_
  refine g_aload_n d_X6_drawn_0 rfl ?_
  refine h_getR d_X6_drawn_1 fl_6_26 sp_L rfl ?_
  refine h_V0i d_X6_drawn_4 cl_6_154 p_isNone (sp_hall hall_15) (by decide) rfl (Nat.le_of_ble_eq_true rfl) (by decide) ?_
  refine g_if_eq d_X6_drawn_7 (fun c7 => ?_) (fun c7 => ?_)
  · have hM0 : ¬ nI M = 0 := fun z => b2i_eq0.mp c7 (gM.trans z)
    obtain ⟨i0, c0, hi0, hi1, hS, hA, hO⟩ := (hZ.resolve_left (fun z => hM0 (by rw [z.1]; rfl))).2.2
    have hI := hS.1
    refine g_iload_n d_X6_drawn_13 rfl ?_
    refine g_if_lt d_X6_drawn_14 (fun c14 => ?_) (fun c14 => ?_)
    · refine g_ldc d_X6_drawn_44 kc_X6_66 ?_
      refine h_iret d_X6_drawn_46 rfl ?_
      refine ⟨_, rfl, ?_⟩
      refine MtH.of [some (.ref 360), some (.int x), some (.int y), some (.int u), none, none, none, none, none, none] pl_X7 rfl rfl ?_
      refine g_aload_n d_X7_drawn_0 rfl ?_
      refine g_iconst d_X7_drawn_1 ik_0 ?_
      refine mm_putI d_X7_drawn_2 fl_7_62 sp_M rfl ?_
      refine g_aload_n d_X7_drawn_5 rfl ?_
      refine h_V0i d_X7_drawn_6 cl_7_195 (m7_isNothing ((hs_j (by decide)).trans wM)) sp_M (by decide) rfl (Nat.le_of_ble_eq_true rfl) (by decide) ?_
      refine g_if_eq d_X7_drawn_9 (fun c9 => ?_) (fun c9 => ?_)
      · refine g_iload_n d_X7_drawn_15 rfl ?_
        refine g_iconst d_X7_drawn_16 ik_0 ?_
        refine g_bipush d_X7_drawn_17 bk_60 ?_
        refine h_S3i d_X7_drawn_19 cl_7_70 m7_in (Nat.le_of_ble_eq_true rfl) (by decide) ?_
        refine g_if_eq d_X7_drawn_22 (fun c22 => ?_) (fun c22 => ?_)
        · refine g_ldc d_X7_drawn_45 kc_X7_78 ?_
          refine h_iret d_X7_drawn_47 rfl ?_
          exact ⟨rfl, _, _, rfl, hR.fr fr_thrown⟩
        · refine g_iload_n d_X7_drawn_25 rfl ?_
          refine g_iconst d_X7_drawn_26 ik_1 ?_
          refine g_ldcw d_X7_drawn_27 kc_X7_259 ?_
          refine h_S3i d_X7_drawn_30 cl_7_70 m7_in (Nat.le_of_ble_eq_true rfl) (by decide) ?_
          refine g_if_eq d_X7_drawn_33 (fun c33 => ?_) (fun c33 => ?_)
          · refine g_ldc d_X7_drawn_45 kc_X7_78 ?_
            refine h_iret d_X7_drawn_47 rfl ?_
            exact ⟨rfl, _, _, rfl, hR.fr fr_thrown⟩
          · refine g_iload_n d_X7_drawn_36 rfl ?_
            refine g_iconst d_X7_drawn_37 ik_0 ?_
            refine g_iconst d_X7_drawn_38 ik_1 ?_
            refine h_S3i d_X7_drawn_39 cl_7_70 m7_in (Nat.le_of_ble_eq_true rfl) (by decide) ?_
            refine g_if_ne d_X7_drawn_42 (fun c42 => ?_) (fun c42 => ?_)
            · exfalso
              simp only [b2i_eq0, b2i_ne0, Int32.lt_iff_toInt_lt, Int32.le_iff_toInt_le, t_0, t_1, t_2, t_3, t_4, t_5, t_6, t_7, t_8, t_9, t_10, t_11, t_12, t_20, t_24, t_40, t_50, t_60, t_99, t_110, t_255, t_999, t_999999, t_m1, gM, gN, eM, eN, eM1, eN1] at *
              omega
            · refine g_ldc d_X7_drawn_45 kc_X7_78 ?_
              refine h_iret d_X7_drawn_47 rfl ?_
              exact ⟨rfl, _, _, rfl, hR.fr fr_thrown⟩
      · exact absurd (b2i_ne0.mp c9) hM0
    · refine g_iload_n d_X6_drawn_17 rfl ?_
      refine g_bipush d_X6_drawn_18 bk_60 ?_
      refine g_icmp_gt d_X6_drawn_20 (fun c20 => ?_) (fun c20 => ?_)
      · refine g_ldc d_X6_drawn_44 kc_X6_66 ?_
        refine h_iret d_X6_drawn_46 rfl ?_
        refine ⟨_, rfl, ?_⟩
        refine MtH.of [some (.ref 360), some (.int x), some (.int y), some (.int u), none, none, none, none, none, none] pl_X7 rfl rfl ?_
        refine g_aload_n d_X7_drawn_0 rfl ?_
        refine g_iconst d_X7_drawn_1 ik_0 ?_
        refine mm_putI d_X7_drawn_2 fl_7_62 sp_M rfl ?_
        refine g_aload_n d_X7_drawn_5 rfl ?_
        refine h_V0i d_X7_drawn_6 cl_7_195 (m7_isNothing ((hs_j (by decide)).trans wM)) sp_M (by decide) rfl (Nat.le_of_ble_eq_true rfl) (by decide) ?_
        refine g_if_eq d_X7_drawn_9 (fun c9 => ?_) (fun c9 => ?_)
        · refine g_iload_n d_X7_drawn_15 rfl ?_
          refine g_iconst d_X7_drawn_16 ik_0 ?_
          refine g_bipush d_X7_drawn_17 bk_60 ?_
          refine h_S3i d_X7_drawn_19 cl_7_70 m7_in (Nat.le_of_ble_eq_true rfl) (by decide) ?_
          refine g_if_eq d_X7_drawn_22 (fun c22 => ?_) (fun c22 => ?_)
          · refine g_ldc d_X7_drawn_45 kc_X7_78 ?_
            refine h_iret d_X7_drawn_47 rfl ?_
            exact ⟨rfl, _, _, rfl, hR.fr fr_thrown⟩
          · refine g_iload_n d_X7_drawn_25 rfl ?_
            refine g_iconst d_X7_drawn_26 ik_1 ?_
            refine g_ldcw d_X7_drawn_27 kc_X7_259 ?_
            refine h_S3i d_X7_drawn_30 cl_7_70 m7_in (Nat.le_of_ble_eq_true rfl) (by decide) ?_
            refine g_if_eq d_X7_drawn_33 (fun c33 => ?_) (fun c33 => ?_)
            · refine g_ldc d_X7_drawn_45 kc_X7_78 ?_
              refine h_iret d_X7_drawn_47 rfl ?_
              exact ⟨rfl, _, _, rfl, hR.fr fr_thrown⟩
            · refine g_iload_n d_X7_drawn_36 rfl ?_
              refine g_iconst d_X7_drawn_37 ik_0 ?_
              refine g_iconst d_X7_drawn_38 ik_1 ?_
              refine h_S3i d_X7_drawn_39 cl_7_70 m7_in (Nat.le_of_ble_eq_true rfl) (by decide) ?_
              refine g_if_ne d_X7_drawn_42 (fun c42 => ?_) (fun c42 => ?_)
              · exfalso
                simp only [b2i_eq0, b2i_ne0, Int32.lt_iff_toInt_lt, Int32.le_iff_toInt_le, t_0, t_1, t_2, t_3, t_4, t_5, t_6, t_7, t_8, t_9, t_10, t_11, t_12, t_20, t_24, t_40, t_50, t_60, t_99, t_110, t_255, t_999, t_999999, t_m1, gM, gN, eM, eN, eM1, eN1] at *
                omega
              · refine g_ldc d_X7_drawn_45 kc_X7_78 ?_
                refine h_iret d_X7_drawn_47 rfl ?_
                exact ⟨rfl, _, _, rfl, hR.fr fr_thrown⟩
        · exact absurd (b2i_ne0.mp c9) hM0
      · refine g_iload_n d_X6_drawn_23 rfl ?_
        refine g_iconst d_X6_drawn_24 ik_1 ?_
        refine g_icmp_lt d_X6_drawn_25 (fun c25 => ?_) (fun c25 => ?_)
        · refine g_ldc d_X6_drawn_44 kc_X6_66 ?_
          refine h_iret d_X6_drawn_46 rfl ?_
          refine ⟨_, rfl, ?_⟩
          refine MtH.of [some (.ref 360), some (.int x), some (.int y), some (.int u), none, none, none, none, none, none] pl_X7 rfl rfl ?_
          refine g_aload_n d_X7_drawn_0 rfl ?_
          refine g_iconst d_X7_drawn_1 ik_0 ?_
          refine mm_putI d_X7_drawn_2 fl_7_62 sp_M rfl ?_
          refine g_aload_n d_X7_drawn_5 rfl ?_
          refine h_V0i d_X7_drawn_6 cl_7_195 (m7_isNothing ((hs_j (by decide)).trans wM)) sp_M (by decide) rfl (Nat.le_of_ble_eq_true rfl) (by decide) ?_
          refine g_if_eq d_X7_drawn_9 (fun c9 => ?_) (fun c9 => ?_)
          · refine g_iload_n d_X7_drawn_15 rfl ?_
            refine g_iconst d_X7_drawn_16 ik_0 ?_
            refine g_bipush d_X7_drawn_17 bk_60 ?_
            refine h_S3i d_X7_drawn_19 cl_7_70 m7_in (Nat.le_of_ble_eq_true rfl) (by decide) ?_
            refine g_if_eq d_X7_drawn_22 (fun c22 => ?_) (fun c22 => ?_)
            · refine g_ldc d_X7_drawn_45 kc_X7_78 ?_
              refine h_iret d_X7_drawn_47 rfl ?_
              exact ⟨rfl, _, _, rfl, hR.fr fr_thrown⟩
            · refine g_iload_n d_X7_drawn_25 rfl ?_
              refine g_iconst d_X7_drawn_26 ik_1 ?_
              refine g_ldcw d_X7_drawn_27 kc_X7_259 ?_
              refine h_S3i d_X7_drawn_30 cl_7_70 m7_in (Nat.le_of_ble_eq_true rfl) (by decide) ?_
              refine g_if_eq d_X7_drawn_33 (fun c33 => ?_) (fun c33 => ?_)
              · refine g_ldc d_X7_drawn_45 kc_X7_78 ?_
                refine h_iret d_X7_drawn_47 rfl ?_
                exact ⟨rfl, _, _, rfl, hR.fr fr_thrown⟩
              · refine g_iload_n d_X7_drawn_36 rfl ?_
                refine g_iconst d_X7_drawn_37 ik_0 ?_
                refine g_iconst d_X7_drawn_38 ik_1 ?_
                refine h_S3i d_X7_drawn_39 cl_7_70 m7_in (Nat.le_of_ble_eq_true rfl) (by decide) ?_
                refine g_if_ne d_X7_drawn_42 (fun c42 => ?_) (fun c42 => ?_)
                · exfalso
                  simp only [b2i_eq0, b2i_ne0, Int32.lt_iff_toInt_lt, Int32.le_iff_toInt_le, t_0, t_1, t_2, t_3, t_4, t_5, t_6, t_7, t_8, t_9, t_10, t_11, t_12, t_20, t_24, t_40, t_50, t_60, t_99, t_110, t_255, t_999, t_999999, t_m1, gM, gN, eM, eN, eM1, eN1] at *
                  omega
                · refine g_ldc d_X7_drawn_45 kc_X7_78 ?_
                  refine h_iret d_X7_drawn_47 rfl ?_
                  exact ⟨rfl, _, _, rfl, hR.fr fr_thrown⟩
          · exact absurd (b2i_ne0.mp c9) hM0
        · refine g_iload_n d_X6_drawn_28 rfl ?_
          refine g_ldcw d_X6_drawn_29 kc_X6_327 ?_
          refine g_icmp_gt d_X6_drawn_32 (fun c32 => ?_) (fun c32 => ?_)
          · refine g_ldc d_X6_drawn_44 kc_X6_66 ?_
            refine h_iret d_X6_drawn_46 rfl ?_
            refine ⟨_, rfl, ?_⟩
            refine MtH.of [some (.ref 360), some (.int x), some (.int y), some (.int u), none, none, none, none, none, none] pl_X7 rfl rfl ?_
            refine g_aload_n d_X7_drawn_0 rfl ?_
            refine g_iconst d_X7_drawn_1 ik_0 ?_
            refine mm_putI d_X7_drawn_2 fl_7_62 sp_M rfl ?_
            refine g_aload_n d_X7_drawn_5 rfl ?_
            refine h_V0i d_X7_drawn_6 cl_7_195 (m7_isNothing ((hs_j (by decide)).trans wM)) sp_M (by decide) rfl (Nat.le_of_ble_eq_true rfl) (by decide) ?_
            refine g_if_eq d_X7_drawn_9 (fun c9 => ?_) (fun c9 => ?_)
            · refine g_iload_n d_X7_drawn_15 rfl ?_
              refine g_iconst d_X7_drawn_16 ik_0 ?_
              refine g_bipush d_X7_drawn_17 bk_60 ?_
              refine h_S3i d_X7_drawn_19 cl_7_70 m7_in (Nat.le_of_ble_eq_true rfl) (by decide) ?_
              refine g_if_eq d_X7_drawn_22 (fun c22 => ?_) (fun c22 => ?_)
              · refine g_ldc d_X7_drawn_45 kc_X7_78 ?_
                refine h_iret d_X7_drawn_47 rfl ?_
                exact ⟨rfl, _, _, rfl, hR.fr fr_thrown⟩
              · refine g_iload_n d_X7_drawn_25 rfl ?_
                refine g_iconst d_X7_drawn_26 ik_1 ?_
                refine g_ldcw d_X7_drawn_27 kc_X7_259 ?_
                refine h_S3i d_X7_drawn_30 cl_7_70 m7_in (Nat.le_of_ble_eq_true rfl) (by decide) ?_
                refine g_if_eq d_X7_drawn_33 (fun c33 => ?_) (fun c33 => ?_)
                · refine g_ldc d_X7_drawn_45 kc_X7_78 ?_
                  refine h_iret d_X7_drawn_47 rfl ?_
                  exact ⟨rfl, _, _, rfl, hR.fr fr_thrown⟩
                · refine g_iload_n d_X7_drawn_36 rfl ?_
                  refine g_iconst d_X7_drawn_37 ik_0 ?_
                  refine g_iconst d_X7_drawn_38 ik_1 ?_
                  refine h_S3i d_X7_drawn_39 cl_7_70 m7_in (Nat.le_of_ble_eq_true rfl) (by decide) ?_
                  refine g_if_ne d_X7_drawn_42 (fun c42 => ?_) (fun c42 => ?_)
                  · exfalso
                    simp only [b2i_eq0, b2i_ne0, Int32.lt_iff_toInt_lt, Int32.le_iff_toInt_le, t_0, t_1, t_2, t_3, t_4, t_5, t_6, t_7, t_8, t_9, t_10, t_11, t_12, t_20, t_24, t_40, t_50, t_60, t_99, t_110, t_255, t_999, t_999999, t_m1, gM, gN, eM, eN, eM1, eN1] at *
                    omega
                  · refine g_ldc d_X7_drawn_45 kc_X7_78 ?_
                    refine h_iret d_X7_drawn_47 rfl ?_
                    exact ⟨rfl, _, _, rfl, hR.fr fr_thrown⟩
            · exact absurd (b2i_ne0.mp c9) hM0
          · refine g_iload_n d_X6_drawn_35 rfl ?_
            refine g_if_lt d_X6_drawn_36 (fun c36 => ?_) (fun c36 => ?_)
            · refine g_ldc d_X6_drawn_44 kc_X6_66 ?_
              refine h_iret d_X6_drawn_46 rfl ?_
              refine ⟨_, rfl, ?_⟩
              refine MtH.of [some (.ref 360), some (.int x), some (.int y), some (.int u), none, none, none, none, none, none] pl_X7 rfl rfl ?_
              refine g_aload_n d_X7_drawn_0 rfl ?_
              refine g_iconst d_X7_drawn_1 ik_0 ?_
              refine mm_putI d_X7_drawn_2 fl_7_62 sp_M rfl ?_
              refine g_aload_n d_X7_drawn_5 rfl ?_
              refine h_V0i d_X7_drawn_6 cl_7_195 (m7_isNothing ((hs_j (by decide)).trans wM)) sp_M (by decide) rfl (Nat.le_of_ble_eq_true rfl) (by decide) ?_
              refine g_if_eq d_X7_drawn_9 (fun c9 => ?_) (fun c9 => ?_)
              · refine g_iload_n d_X7_drawn_15 rfl ?_
                refine g_iconst d_X7_drawn_16 ik_0 ?_
                refine g_bipush d_X7_drawn_17 bk_60 ?_
                refine h_S3i d_X7_drawn_19 cl_7_70 m7_in (Nat.le_of_ble_eq_true rfl) (by decide) ?_
                refine g_if_eq d_X7_drawn_22 (fun c22 => ?_) (fun c22 => ?_)
                · refine g_ldc d_X7_drawn_45 kc_X7_78 ?_
                  refine h_iret d_X7_drawn_47 rfl ?_
                  exact ⟨rfl, _, _, rfl, hR.fr fr_thrown⟩
                · refine g_iload_n d_X7_drawn_25 rfl ?_
                  refine g_iconst d_X7_drawn_26 ik_1 ?_
                  refine g_ldcw d_X7_drawn_27 kc_X7_259 ?_
                  refine h_S3i d_X7_drawn_30 cl_7_70 m7_in (Nat.le_of_ble_eq_true rfl) (by decide) ?_
                  refine g_if_eq d_X7_drawn_33 (fun c33 => ?_) (fun c33 => ?_)
                  · refine g_ldc d_X7_drawn_45 kc_X7_78 ?_
                    refine h_iret d_X7_drawn_47 rfl ?_
                    exact ⟨rfl, _, _, rfl, hR.fr fr_thrown⟩
                  · refine g_iload_n d_X7_drawn_36 rfl ?_
                    refine g_iconst d_X7_drawn_37 ik_0 ?_
                    refine g_iconst d_X7_drawn_38 ik_1 ?_
                    refine h_S3i d_X7_drawn_39 cl_7_70 m7_in (Nat.le_of_ble_eq_true rfl) (by decide) ?_
                    refine g_if_ne d_X7_drawn_42 (fun c42 => ?_) (fun c42 => ?_)
                    · exfalso
                      simp only [b2i_eq0, b2i_ne0, Int32.lt_iff_toInt_lt, Int32.le_iff_toInt_le, t_0, t_1, t_2, t_3, t_4, t_5, t_6, t_7, t_8, t_9, t_10, t_11, t_12, t_20, t_24, t_40, t_50, t_60, t_99, t_110, t_255, t_999, t_999999, t_m1, gM, gN, eM, eN, eM1, eN1] at *
                      omega
                    · refine g_ldc d_X7_drawn_45 kc_X7_78 ?_
                      refine h_iret d_X7_drawn_47 rfl ?_
                      exact ⟨rfl, _, _, rfl, hR.fr fr_thrown⟩
              · exact absurd (b2i_ne0.mp c9) hM0
            · refine g_iload_n d_X6_drawn_39 rfl ?_
              refine g_iconst d_X6_drawn_40 ik_1 ?_
              refine g_icmp_le d_X6_drawn_41 (fun c41 => ?_) (fun c41 => ?_)
              · obtain ⟨n, hn, rfl⟩ := rngI (x := x) (B := 61) (by simp only [b2i_eq0, b2i_ne0, Int32.lt_iff_toInt_lt, Int32.le_iff_toInt_le, t_0, t_1, t_2, t_3, t_4, t_5, t_6, t_7, t_8, t_9, t_10, t_11, t_12, t_20, t_24, t_40, t_50, t_60, t_99, t_110, t_255, t_999, t_999999, t_m1, gM, gN, eM, eN, eM1, eN1] at *; omega) (by simp only [b2i_eq0, b2i_ne0, Int32.lt_iff_toInt_lt, Int32.le_iff_toInt_le, t_0, t_1, t_2, t_3, t_4, t_5, t_6, t_7, t_8, t_9, t_10, t_11, t_12, t_20, t_24, t_40, t_50, t_60, t_99, t_110, t_255, t_999, t_999999, t_m1, gM, gN, eM, eN, eM1, eN1] at *; omega)
                have en : (nI n).toInt = n := nI_toInt (by omega)
                obtain ⟨s, hs, rfl⟩ := rngI (x := y) (B := 1000000) (by simp only [b2i_eq0, b2i_ne0, Int32.lt_iff_toInt_lt, Int32.le_iff_toInt_le, t_0, t_1, t_2, t_3, t_4, t_5, t_6, t_7, t_8, t_9, t_10, t_11, t_12, t_20, t_24, t_40, t_50, t_60, t_99, t_110, t_255, t_999, t_999999, t_m1, en, gM, gN, eM, eN, eM1, eN1] at *; omega) (by simp only [b2i_eq0, b2i_ne0, Int32.lt_iff_toInt_lt, Int32.le_iff_toInt_le, t_0, t_1, t_2, t_3, t_4, t_5, t_6, t_7, t_8, t_9, t_10, t_11, t_12, t_20, t_24, t_40, t_50, t_60, t_99, t_110, t_255, t_999, t_999999, t_m1, en, gM, gN, eM, eN, eM1, eN1] at *; omega)
                have es : (nI s).toInt = s := nI_toInt (by omega)
                obtain ⟨t0, t1, t2, t3⟩ := hS.2.2.2.2
                obtain ⟨b, hb, rfl⟩ := rngI (x := u) (B := 2) (by simp only [b2i_eq0, b2i_ne0, Int32.lt_iff_toInt_lt, Int32.le_iff_toInt_le, t_0, t_1, t_2, t_3, t_4, t_5, t_6, t_7, t_8, t_9, t_10, t_11, t_12, t_20, t_24, t_40, t_50, t_60, t_99, t_110, t_255, t_999, t_999999, t_m1, en, es, gM, gN, eM, eN, eM1, eN1] at *; omega) (by simp only [b2i_eq0, b2i_ne0, Int32.lt_iff_toInt_lt, Int32.le_iff_toInt_le, t_0, t_1, t_2, t_3, t_4, t_5, t_6, t_7, t_8, t_9, t_10, t_11, t_12, t_20, t_24, t_40, t_50, t_60, t_99, t_110, t_255, t_999, t_999999, t_m1, en, es, gM, gN, eM, eN, eM1, eN1] at *; omega)
                have eb : (nI b).toInt = b := nI_toInt (by omega)
                rcases (show b = 0 ∨ b = 1 by omega) with rfl | rfl
                · refine g_aload_n d_X6_drawn_47 rfl ?_
                  refine h_V0a d_X6_drawn_48 cl_6_242 p_asNow sp_L (by decide) rfl (Nat.le_of_ble_eq_true rfl) (by decide) ?_
                  refine w_astore (L' := [_, _, _, _, _, _, _, _, _, _]) d_X6_drawn_51 rfl rfl rfl ?_
                  refine g_iload_n d_X6_drawn_53 rfl ?_
                  refine g_i2l d_X6_drawn_54 ?_
                  rw [lI_i2 (by omega)]
                  refine w_lstore (L' := [_, _, _, _, _, _, _, _, _, _]) d_X6_drawn_55 rfl rfl rfl ?_
                  refine g_iconst d_X6_drawn_57 ik_0 ?_
                  refine w_istore (L' := [_, _, _, _, _, _, _, _, _, _]) d_X6_drawn_58 rfl rfl rfl ?_
                  refine g_iconst d_X6_drawn_60 ik_0 ?_
                  refine w_istore (L' := [_, _, _, _, _, _, _, _, _, _]) d_X6_drawn_61 rfl rfl rfl ?_
                  refine h_weaken (lp_drawn6_0 (by omega) n 0 s (hv h 15) 0 t0 (by omega) (by omega) hI t2 (by omega) _) ?_
                  intro v' h' hp
                  obtain ⟨rfl, g', rfl⟩ := hp
                  refine ⟨_, rfl, ?_⟩
                  rw [mu_pu (by decide)]
                  refine MtH.of [some (.ref 360), some (.int (nI n)), some (.int (nI s)), some (.int 0), none, none, none, none, none, none] pl_X7 rfl rfl ?_
                  refine g_aload_n d_X7_drawn_0 rfl ?_
                  refine g_iconst d_X7_drawn_1 ik_0 ?_
                  refine mm_putI d_X7_drawn_2 fl_7_62 sp_M rfl ?_
                  refine g_aload_n d_X7_drawn_5 rfl ?_
                  refine h_V0i d_X7_drawn_6 cl_7_195 (m7_isNothing ((hs_j (by decide)).trans wM)) sp_M (by decide) rfl (Nat.le_of_ble_eq_true rfl) (by decide) ?_
                  refine g_if_eq d_X7_drawn_9 (fun c9 => ?_) (fun c9 => ?_)
                  · refine g_iload_n d_X7_drawn_15 rfl ?_
                    refine g_iconst d_X7_drawn_16 ik_0 ?_
                    refine g_bipush d_X7_drawn_17 bk_60 ?_
                    refine h_S3i d_X7_drawn_19 cl_7_70 m7_in (Nat.le_of_ble_eq_true rfl) (by decide) ?_
                    refine g_if_eq d_X7_drawn_22 (fun c22 => ?_) (fun c22 => ?_)
                    · exfalso
                      simp only [b2i_eq0, b2i_ne0, Int32.lt_iff_toInt_lt, Int32.le_iff_toInt_le, t_0, t_1, t_2, t_3, t_4, t_5, t_6, t_7, t_8, t_9, t_10, t_11, t_12, t_20, t_24, t_40, t_50, t_60, t_99, t_110, t_255, t_999, t_999999, t_m1, en, es, gM, gN, eM, eN, eM1, eN1] at *
                      omega
                    · refine g_iload_n d_X7_drawn_25 rfl ?_
                      refine g_iconst d_X7_drawn_26 ik_1 ?_
                      refine g_ldcw d_X7_drawn_27 kc_X7_259 ?_
                      refine h_S3i d_X7_drawn_30 cl_7_70 m7_in (Nat.le_of_ble_eq_true rfl) (by decide) ?_
                      refine g_if_eq d_X7_drawn_33 (fun c33 => ?_) (fun c33 => ?_)
                      · exfalso
                        simp only [b2i_eq0, b2i_ne0, Int32.lt_iff_toInt_lt, Int32.le_iff_toInt_le, t_0, t_1, t_2, t_3, t_4, t_5, t_6, t_7, t_8, t_9, t_10, t_11, t_12, t_20, t_24, t_40, t_50, t_60, t_99, t_110, t_255, t_999, t_999999, t_m1, en, es, gM, gN, eM, eN, eM1, eN1] at *
                        omega
                      · refine g_iload_n d_X7_drawn_36 rfl ?_
                        refine g_iconst d_X7_drawn_37 ik_0 ?_
                        refine g_iconst d_X7_drawn_38 ik_1 ?_
                        refine h_S3i d_X7_drawn_39 cl_7_70 m7_in (Nat.le_of_ble_eq_true rfl) (by decide) ?_
                        refine g_if_ne d_X7_drawn_42 (fun c42 => ?_) (fun c42 => absurd c42 (by decide))
                        refine g_aload_n d_X7_drawn_48 rfl ?_
                        refine h_V0v d_X7_drawn_49 cl_7_178 m7_asNow sp_M (by decide) rfl (Nat.le_of_ble_eq_true rfl) (by decide) ?_
                        refine g_aload_n d_X7_drawn_52 rfl ?_
                        refine h_V0v d_X7_drawn_53 cl_7_181 m7_ranksByNumber sp_M (by decide) rfl (Nat.le_of_ble_eq_true rfl) (by decide) ?_
                        refine g_iload_n d_X7_drawn_56 rfl ?_
                        refine g_i2l d_X7_drawn_57 ?_
                        rw [lI_i2 (by omega)]
                        refine w_lstore (L' := [_, _, _, _, _, _, _, _, _, _]) d_X7_drawn_58 rfl rfl rfl ?_
                        refine g_iconst d_X7_drawn_60 ik_0 ?_
                        refine w_istore (L' := [_, _, _, _, _, _, _, _, _, _]) d_X7_drawn_61 rfl rfl rfl ?_
                        refine h_weaken (lp_drawn7_0 (w := hset w 0 0 0) ((hs_j (by decide)).trans wN) ((hs_j (by decide)).trans wM) (by omega) n 0 s (hv h 15) 0 t0 _ (by omega) (by omega) hI t2 (by omega) (rep_now (hS.2.1.th hM5 hN6) hM5 hN6 hS.2.2.1.1) nowR_fs ((rkW_j (by decide)).trans now_dry) _ _ _) ?_
                        intro v' h' hp
                        obtain ⟨rfl, w3, rfl, hf3⟩ := hp
                        exact ⟨rfl, _, _, rfl, (hR.fc fc_27).fr (fr_thrown.tr hf3.fr)⟩
                  · exact absurd (b2i_ne0.mp c9) hM0
                · refine g_aload_n d_X6_drawn_47 rfl ?_
                  refine h_V0a d_X6_drawn_48 cl_6_242 p_asNow sp_L (by decide) rfl (Nat.le_of_ble_eq_true rfl) (by decide) ?_
                  refine w_astore (L' := [_, _, _, _, _, _, _, _, _, _]) d_X6_drawn_51 rfl rfl rfl ?_
                  refine g_iload_n d_X6_drawn_53 rfl ?_
                  refine g_i2l d_X6_drawn_54 ?_
                  rw [lI_i2 (by omega)]
                  refine w_lstore (L' := [_, _, _, _, _, _, _, _, _, _]) d_X6_drawn_55 rfl rfl rfl ?_
                  refine g_iconst d_X6_drawn_57 ik_0 ?_
                  refine w_istore (L' := [_, _, _, _, _, _, _, _, _, _]) d_X6_drawn_58 rfl rfl rfl ?_
                  refine g_iconst d_X6_drawn_60 ik_0 ?_
                  refine w_istore (L' := [_, _, _, _, _, _, _, _, _, _]) d_X6_drawn_61 rfl rfl rfl ?_
                  refine h_weaken (lp_drawn6_1 (by omega) n 0 s (hv h 15) 0 t0 (by omega) (by omega) hI t2 (by omega) _) ?_
                  intro v' h' hp
                  obtain ⟨rfl, g', rfl⟩ := hp
                  refine ⟨_, rfl, ?_⟩
                  rw [mu_pu (by decide)]
                  refine MtH.of [some (.ref 360), some (.int (nI n)), some (.int (nI s)), some (.int 1), none, none, none, none, none, none] pl_X7 rfl rfl ?_
                  refine g_aload_n d_X7_drawn_0 rfl ?_
                  refine g_iconst d_X7_drawn_1 ik_0 ?_
                  refine mm_putI d_X7_drawn_2 fl_7_62 sp_M rfl ?_
                  refine g_aload_n d_X7_drawn_5 rfl ?_
                  refine h_V0i d_X7_drawn_6 cl_7_195 (m7_isNothing ((hs_j (by decide)).trans wM)) sp_M (by decide) rfl (Nat.le_of_ble_eq_true rfl) (by decide) ?_
                  refine g_if_eq d_X7_drawn_9 (fun c9 => ?_) (fun c9 => ?_)
                  · refine g_iload_n d_X7_drawn_15 rfl ?_
                    refine g_iconst d_X7_drawn_16 ik_0 ?_
                    refine g_bipush d_X7_drawn_17 bk_60 ?_
                    refine h_S3i d_X7_drawn_19 cl_7_70 m7_in (Nat.le_of_ble_eq_true rfl) (by decide) ?_
                    refine g_if_eq d_X7_drawn_22 (fun c22 => ?_) (fun c22 => ?_)
                    · exfalso
                      simp only [b2i_eq0, b2i_ne0, Int32.lt_iff_toInt_lt, Int32.le_iff_toInt_le, t_0, t_1, t_2, t_3, t_4, t_5, t_6, t_7, t_8, t_9, t_10, t_11, t_12, t_20, t_24, t_40, t_50, t_60, t_99, t_110, t_255, t_999, t_999999, t_m1, en, es, gM, gN, eM, eN, eM1, eN1] at *
                      omega
                    · refine g_iload_n d_X7_drawn_25 rfl ?_
                      refine g_iconst d_X7_drawn_26 ik_1 ?_
                      refine g_ldcw d_X7_drawn_27 kc_X7_259 ?_
                      refine h_S3i d_X7_drawn_30 cl_7_70 m7_in (Nat.le_of_ble_eq_true rfl) (by decide) ?_
                      refine g_if_eq d_X7_drawn_33 (fun c33 => ?_) (fun c33 => ?_)
                      · exfalso
                        simp only [b2i_eq0, b2i_ne0, Int32.lt_iff_toInt_lt, Int32.le_iff_toInt_le, t_0, t_1, t_2, t_3, t_4, t_5, t_6, t_7, t_8, t_9, t_10, t_11, t_12, t_20, t_24, t_40, t_50, t_60, t_99, t_110, t_255, t_999, t_999999, t_m1, en, es, gM, gN, eM, eN, eM1, eN1] at *
                        omega
                      · refine g_iload_n d_X7_drawn_36 rfl ?_
                        refine g_iconst d_X7_drawn_37 ik_0 ?_
                        refine g_iconst d_X7_drawn_38 ik_1 ?_
                        refine h_S3i d_X7_drawn_39 cl_7_70 m7_in (Nat.le_of_ble_eq_true rfl) (by decide) ?_
                        refine g_if_ne d_X7_drawn_42 (fun c42 => ?_) (fun c42 => absurd c42 (by decide))
                        refine g_aload_n d_X7_drawn_48 rfl ?_
                        refine h_V0v d_X7_drawn_49 cl_7_178 m7_asNow sp_M (by decide) rfl (Nat.le_of_ble_eq_true rfl) (by decide) ?_
                        refine g_aload_n d_X7_drawn_52 rfl ?_
                        refine h_V0v d_X7_drawn_53 cl_7_181 m7_ranksByNumber sp_M (by decide) rfl (Nat.le_of_ble_eq_true rfl) (by decide) ?_
                        refine g_iload_n d_X7_drawn_56 rfl ?_
                        refine g_i2l d_X7_drawn_57 ?_
                        rw [lI_i2 (by omega)]
                        refine w_lstore (L' := [_, _, _, _, _, _, _, _, _, _]) d_X7_drawn_58 rfl rfl rfl ?_
                        refine g_iconst d_X7_drawn_60 ik_0 ?_
                        refine w_istore (L' := [_, _, _, _, _, _, _, _, _, _]) d_X7_drawn_61 rfl rfl rfl ?_
                        refine h_weaken (lp_drawn7_1 (w := hset w 0 0 0) ((hs_j (by decide)).trans wN) ((hs_j (by decide)).trans wM) (by omega) n 0 s (hv h 15) 0 t0 _ (by omega) (by omega) hI t2 (by omega) (rep_now (hS.2.1.th hM5 hN6) hM5 hN6 hS.2.2.1.1) nowR_fs ((rkW_j (by decide)).trans now_dry) _ _ _) ?_
                        intro v' h' hp
                        obtain ⟨rfl, w3, rfl, hf3⟩ := hp
                        exact ⟨rfl, _, _, rfl, (hR.fc fc_27).fr (fr_thrown.tr hf3.fr)⟩
                  · exact absurd (b2i_ne0.mp c9) hM0
              · refine g_ldc d_X6_drawn_44 kc_X6_66 ?_
                refine h_iret d_X6_drawn_46 rfl ?_
                refine ⟨_, rfl, ?_⟩
                refine MtH.of [some (.ref 360), some (.int x), some (.int y), some (.int u), none, none, none, none, none, none] pl_X7 rfl rfl ?_
                refine g_aload_n d_X7_drawn_0 rfl ?_
                refine g_iconst d_X7_drawn_1 ik_0 ?_
                refine mm_putI d_X7_drawn_2 fl_7_62 sp_M rfl ?_
                refine g_aload_n d_X7_drawn_5 rfl ?_
                refine h_V0i d_X7_drawn_6 cl_7_195 (m7_isNothing ((hs_j (by decide)).trans wM)) sp_M (by decide) rfl (Nat.le_of_ble_eq_true rfl) (by decide) ?_
                refine g_if_eq d_X7_drawn_9 (fun c9 => ?_) (fun c9 => ?_)
                · refine g_iload_n d_X7_drawn_15 rfl ?_
                  refine g_iconst d_X7_drawn_16 ik_0 ?_
                  refine g_bipush d_X7_drawn_17 bk_60 ?_
                  refine h_S3i d_X7_drawn_19 cl_7_70 m7_in (Nat.le_of_ble_eq_true rfl) (by decide) ?_
                  refine g_if_eq d_X7_drawn_22 (fun c22 => ?_) (fun c22 => ?_)
                  · refine g_ldc d_X7_drawn_45 kc_X7_78 ?_
                    refine h_iret d_X7_drawn_47 rfl ?_
                    exact ⟨rfl, _, _, rfl, hR.fr fr_thrown⟩
                  · refine g_iload_n d_X7_drawn_25 rfl ?_
                    refine g_iconst d_X7_drawn_26 ik_1 ?_
                    refine g_ldcw d_X7_drawn_27 kc_X7_259 ?_
                    refine h_S3i d_X7_drawn_30 cl_7_70 m7_in (Nat.le_of_ble_eq_true rfl) (by decide) ?_
                    refine g_if_eq d_X7_drawn_33 (fun c33 => ?_) (fun c33 => ?_)
                    · refine g_ldc d_X7_drawn_45 kc_X7_78 ?_
                      refine h_iret d_X7_drawn_47 rfl ?_
                      exact ⟨rfl, _, _, rfl, hR.fr fr_thrown⟩
                    · refine g_iload_n d_X7_drawn_36 rfl ?_
                      refine g_iconst d_X7_drawn_37 ik_0 ?_
                      refine g_iconst d_X7_drawn_38 ik_1 ?_
                      refine h_S3i d_X7_drawn_39 cl_7_70 m7_in (Nat.le_of_ble_eq_true rfl) (by decide) ?_
                      refine g_if_ne d_X7_drawn_42 (fun c42 => ?_) (fun c42 => ?_)
                      · exfalso
                        simp only [b2i_eq0, b2i_ne0, Int32.lt_iff_toInt_lt, Int32.le_iff_toInt_le, t_0, t_1, t_2, t_3, t_4, t_5, t_6, t_7, t_8, t_9, t_10, t_11, t_12, t_20, t_24, t_40, t_50, t_60, t_99, t_110, t_255, t_999, t_999999, t_m1, gM, gN, eM, eN, eM1, eN1] at *
                        omega
                      · refine g_ldc d_X7_drawn_45 kc_X7_78 ?_
                        refine h_iret d_X7_drawn_47 rfl ?_
                        exact ⟨rfl, _, _, rfl, hR.fr fr_thrown⟩
                · exact absurd (b2i_ne0.mp c9) hM0
  · refine g_ldc d_X6_drawn_10 kc_X6_141 ?_
    refine h_iret d_X6_drawn_12 rfl ?_
    refine ⟨_, rfl, ?_⟩
    refine MtH.of [some (.ref 360), some (.int x), some (.int y), some (.int u), none, none, none, none, none, none] pl_X7 rfl rfl ?_
    refine g_aload_n d_X7_drawn_0 rfl ?_
    refine g_iconst d_X7_drawn_1 ik_0 ?_
    refine mm_putI d_X7_drawn_2 fl_7_62 sp_M rfl ?_
    refine g_aload_n d_X7_drawn_5 rfl ?_
    refine h_V0i d_X7_drawn_6 cl_7_195 (m7_isNothing ((hs_j (by decide)).trans wM)) sp_M (by decide) rfl (Nat.le_of_ble_eq_true rfl) (by decide) ?_
    refine g_if_eq d_X7_drawn_9 (fun c9 => ?_) (fun c9 => ?_)
    · exact absurd (gM.symm.trans (b2i_ne0.mp c7)) (b2i_eq0.mp c9)
    · refine g_ldc d_X7_drawn_12 kc_X7_194 ?_
      refine h_iret d_X7_drawn_14 rfl ?_
      exact ⟨rfl, _, _, rfl, hR.fr fr_thrown⟩

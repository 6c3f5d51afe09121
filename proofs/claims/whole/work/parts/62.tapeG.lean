/-! THE TAPE: what is told, and the op -/
theorem pNum_ok {b : Nat → Nat} {L lo hi p v q : Nat} (h : pNum b L lo hi p = .ok (v, q)) : lo ≤ v ∧ v ≤ hi := by
  unfold pNum at h
  split at h
  · split at h
    · rename_i z
      cases h
      exact z
    · cases h
  · cases h
theorem pMach_ok {b : Nat → Nat} {L p v1 v2 q : Nat} (h : pMach b L p = .ok (v1, v2, q)) : (1 ≤ v1 ∧ v1 ≤ 9) ∧ v2 ≤ 5 := by
  unfold pMach at h
  cases h1 : pNum b L 1 9 (tkQ b L p) with
  | error e => rw [h1] at h; cases h
  | ok r =>
    obtain ⟨a1, a2⟩ := r
    rw [h1] at h
    dsimp only at h
    cases h2 : pPass b L 44 a2 with
    | error e => rw [h2] at h; cases h
    | ok r2 =>
      rw [h2] at h
      dsimp only at h
      cases h3 : pNum b L 0 5 r2 with
      | error e => rw [h3] at h; cases h
      | ok r3 =>
        obtain ⟨b1, b2⟩ := r3
        rw [h3] at h
        dsimp only at h
        cases h4 : pPass b L 59 b2 with
        | error e => rw [h4] at h; cases h
        | ok r4 =>
          rw [h4] at h
          cases h
          exact ⟨pNum_ok h1, (pNum_ok h3).2⟩
theorem pLoad_ok {b : Nat → Nat} {L p v1 v2 q : Nat} (h : pLoad b L p = .ok (v1, v2, q)) : (1 ≤ v1 ∧ v1 ≤ 9) ∧ v2 ≤ 60 := by
  unfold pLoad at h
  cases h1 : pNum b L 1 9 (tkQ b L p) with
  | error e => rw [h1] at h; cases h
  | ok r =>
    obtain ⟨a1, a2⟩ := r
    rw [h1] at h
    dsimp only at h
    cases h2 : pPass b L 44 a2 with
    | error e => rw [h2] at h; cases h
    | ok r2 =>
      rw [h2] at h
      dsimp only at h
      cases h3 : pNum b L 0 60 r2 with
      | error e => rw [h3] at h; cases h
      | ok r3 =>
        obtain ⟨b1, b2⟩ := r3
        rw [h3] at h
        dsimp only at h
        cases h4 : pPass b L 59 b2 with
        | error e => rw [h4] at h; cases h
        | ok r4 =>
          rw [h4] at h
          cases h
          exact ⟨pNum_ok h1, (pNum_ok h3).2⟩
theorem pLaw_ok {b : Nat → Nat} {L p v q : Nat} (h : pLaw b L p = .ok (v, q)) : 1 ≤ v ∧ v ≤ 5 := by
  unfold pLaw at h
  cases h1 : pPass b L 108 p with
  | error e => rw [h1] at h; cases h
  | ok r =>
    rw [h1] at h
    dsimp only at h
    cases h2 : pNum b L 1 5 r with
    | error e => rw [h2] at h; cases h
    | ok r2 =>
      obtain ⟨a1, a2⟩ := r2
      rw [h2] at h
      dsimp only at h
      cases h3 : pPass b L 59 a2 with
      | error e => rw [h3] at h; cases h
      | ok r3 =>
        rw [h3] at h
        cases h
        exact pNum_ok h2
def GMc (M : Nat) (g : Hv) : Prop := (g 0 2 = nI M ∧ M ≤ 5 ∧ g 0 1 = 0 ∧ g 0 4 = nI (2 ^ M - 1) ∧ ∃ p, 1 ≤ p ∧ p ≤ 5 ∧ g 0 0 = nI p) ∧ ∀ k, k < M → g 4 k = -1 ∧ g 5 k = 0 ∧ g 6 k = 0 ∧ ∃ a b c, 1 ≤ a ∧ a ≤ 5 ∧ g 1 k = nI a ∧ 1 ≤ b ∧ b ≤ 9 ∧ g 2 k = nI b ∧ c ≤ 5 ∧ g 3 k = nI c
def GLd (N : Nat) (g : Hv) : Prop := g 0 3 = nI N ∧ N ≤ 6 ∧ ∀ l, l < N → g 9 l = 0 ∧ g 11 l = nI l ∧ ∃ a b, 1 ≤ a ∧ a ≤ 9 ∧ g 7 l = nI a ∧ b ≤ 60 ∧ g 8 l = nI b
theorem opn_s : ∀ M, M < 5 → nI (2 ^ M - 1) ||| (1 : Int32) <<< (nI M &&& 31) = nI (2 ^ (M + 1) - 1) := by decide +kernel
theorem GMc.addM {M kd v1 v2 : Nat} {g : Hv} (h : GMc M g) (hM : M < 5) (hk : 1 ≤ kd ∧ kd ≤ 5) (h1 : 1 ≤ v1 ∧ v1 ≤ 9) (h2 : v2 ≤ 5) : GMc (M + 1) (Jvm.Pilot.@@N@@.addM g M (nI kd) (nI v1) (nI v2)) := by
  obtain ⟨⟨a1, a2, a3, a4, a5⟩, a6⟩ := h
  obtain ⟨-, -, s1, s2, s3⟩ := addM_s (g := g) (n := M) (k := 0) (a := nI kd) (b := nI v1) (c := nI v2)
  refine ⟨⟨addM_02, by omega, s2.trans a3, by rw [s3, a4]; exact opn_s M hM, by rw [s1]; exact a5⟩, fun k hk' => ?_⟩
  obtain ⟨r1, r2, r3, r4, r5, r6⟩ := addM_r (g := g) (n := M) (k := k) (a := nI kd) (b := nI v1) (c := nI v2)
  rw [r1, r2, r3, r4, r5, r6]
  by_cases e : k = M
  · simp only [if_pos e]
    exact ⟨trivial, trivial, trivial, kd, v1, v2, hk.1, hk.2, rfl, h1.1, h1.2, rfl, h2, rfl⟩
  · simp only [if_neg e]
    exact a6 k (by omega)
theorem GMc.addL {M N v1 v2 : Nat} {g : Hv} (h : GMc M g) : GMc M (Jvm.Pilot.@@N@@.addL g N (nI v1) (nI v2)) := by
  obtain ⟨⟨a1, a2, a3, a4, a5⟩, a6⟩ := h
  obtain ⟨-, -, -, -, -, -, s0, s1, s2, s4⟩ := addL_s (g := g) (n := N) (k := 0) (a := nI v1) (b := nI v2)
  refine ⟨⟨s2.trans a1, a2, s1.trans a3, s4.trans a4, by rw [s0]; exact a5⟩, fun k hk => ?_⟩
  obtain ⟨t1, t2, t3, t4, t5, t6, -⟩ := addL_s (g := g) (n := N) (k := k) (a := nI v1) (b := nI v2)
  rw [t1, t2, t3, t4, t5, t6]
  exact a6 k hk
theorem GLd.addL {N v1 v2 : Nat} {g : Hv} (h : GLd N g) (hN : N < 6) (h1 : 1 ≤ v1 ∧ v1 ≤ 9) (h2 : v2 ≤ 60) : GLd (N + 1) (Jvm.Pilot.@@N@@.addL g N (nI v1) (nI v2)) := by
  obtain ⟨a1, a2, a3⟩ := h
  refine ⟨addL_03, by omega, fun l hl => ?_⟩
  obtain ⟨r1, r2, r3, r4⟩ := addL_r (g := g) (n := N) (k := l) (a := nI v1) (b := nI v2)
  rw [r1, r2, r3, r4]
  by_cases e : l = N
  · simp only [if_pos e]
    exact ⟨trivial, by rw [e], v1, v2, h1.1, h1.2, rfl, h2, rfl⟩
  · simp only [if_neg e]
    exact a3 l (by omega)
theorem pMs_ok {b : Nat → Nat} {L : Nat} : ∀ (f M p : Nat) (g : Hv) (M' q : Nat) (g' : Hv), M + f = 5 → GMc M g → pMs b L (f + 1) M p g = .ok (M', q, g') → GMc M' g' ∧ 0 < M' ∧ g' 0 3 = g 0 3
  | 0, M, p, g, M', q, g', hf, hg, h => by
    rw [pMs] at h
    split at h
    · split at h
      · cases h
      · rename_i z; cases h; exact ⟨hg, by omega, rfl⟩
    · rw [if_pos (by omega)] at h
      cases h
  | f + 1, M, p, g, M', q, g', hf, hg, h => by
    rw [pMs] at h
    split at h
    · split at h
      · cases h
      · rename_i z; cases h; exact ⟨hg, by omega, rfl⟩
    · rename_i hz
      rw [if_neg (by omega)] at h
      cases hm : pMach b L p with
      | error e => rw [hm] at h; cases h
      | ok r =>
        obtain ⟨v1, v2, q1⟩ := r
        rw [hm] at h
        dsimp only at h
        have hp := pMach_ok hm
        have hk := kindN_lt (tkC b L p)
        have r := pMs_ok f (M + 1) q1 _ M' q g' (by omega) (hg.addM (by omega) (by omega) hp.1 hp.2) h
        exact ⟨r.1, r.2.1, r.2.2.trans addM_03⟩
theorem pLs_ok {b : Nat → Nat} {L M : Nat} : ∀ (f N p : Nat) (g : Hv) (N' : Nat) (g' : Hv), N + f = 6 → GMc M g → GLd N g → pLs b L (f + 1) N p g = .ok (N', g') → GMc M g' ∧ GLd N' g' ∧ 0 < N'
  | 0, N, p, g, N', g', hf, hg, hl, h => by
    rw [pLs] at h
    split at h
    · rw [if_pos (by omega)] at h; cases h
    · split at h
      · rename_i z; cases h; exact ⟨hg, hl, z.1⟩
      · cases h
  | f + 1, N, p, g, N', g', hf, hg, hl, h => by
    rw [pLs] at h
    split at h
    · rw [if_neg (by omega)] at h
      cases hm : pLoad b L p with
      | error e => rw [hm] at h; cases h
      | ok r =>
        obtain ⟨v1, v2, q1⟩ := r
        rw [hm] at h
        dsimp only at h
        have hp := pLoad_ok hm
        exact pLs_ok f (N + 1) q1 _ N' g' (by omega) hg.addL (hl.addL (by omega) hp.1 hp.2) h
    · split at h
      · rename_i z; cases h; exact ⟨hg, hl, z.1⟩
      · cases h
theorem pAll_ok {b : Nat → Nat} {L : Nat} {g0 : Hv} {M N : Nat} {g : Hv} (h : pAll b L g0 = .ok (M, N, g)) : GMc M g ∧ GLd N g ∧ 0 < M ∧ 0 < N := by
  unfold pAll at h
  cases h1 : pLaw b L 0 with
  | error e => rw [h1] at h; cases h
  | ok r =>
    obtain ⟨v, p1⟩ := r
    rw [h1] at h
    dsimp only at h
    have hv := pLaw_ok h1
    cases h2 : pMs b L 6 0 p1 (hset (clrS g0) 0 0 (nI v)) with
    | error e => rw [h2] at h; cases h
    | ok r2 =>
      obtain ⟨M2, p2, g2⟩ := r2
      rw [h2] at h
      dsimp only at h
      have q2 := pMs_ok 5 0 p1 _ M2 p2 g2 rfl ⟨⟨rfl, by omega, rfl, rfl, v, hv.1, hv.2, hs_at⟩, fun k hk => absurd hk (by omega)⟩ h2
      cases h3 : pLs b L 7 0 p2 g2 with
      | error e => rw [h3] at h; cases h
      | ok r3 =>
        obtain ⟨N3, g3⟩ := r3
        rw [h3] at h
        cases h
        have q3 := pLs_ok (M := M) 6 0 p2 g2 N g rfl q2.1 ⟨q2.2.2.trans rfl, by omega, fun l hl => absurd hl (by omega)⟩ h3
        exact ⟨q3.1, q3.2.1, q2.2.1, q3.2.2⟩
theorem anyI (x : Int32) : ∃ l, x = nI l := ⟨x.toUInt32.toNat, (nI_u x).symm⟩
theorem HS_told {M N : Nat} {g w : Hv} {d s : Nat → Int32} (hm : GMc M g) (hl : GLd N g) (hM : 0 < M) (hN : 0 < N) (dr : DR M N g w) (hd : ∀ y, y < 17 → d y = w 5 y) (hs : ∀ y, y < 42 → s y = if y = 2 then nI (2 ^ M - 1) else if 3 ≤ y ∧ y < 8 then -1 else w 6 y) : HS M N g d s := by
  obtain ⟨⟨a1, a2, a3, a4, a5⟩, a6⟩ := hm
  obtain ⟨b1, b2, b3⟩ := hl
  obtain ⟨d0, d1, d2, d3, d4, d5⟩ := dr
  have hp : 1 ≤ 2 ^ M := Nat.one_le_two_pow
  refine ⟨⟨⟨a2, b2, hM, hN⟩, ⟨a1, b1⟩, fun k hk => Or.inl ⟨(a6 k hk).1, (a6 k hk).2.1⟩, fun l hl => Or.inl (b3 l hl).1, fun k hk => ?_, fun l hl => ?_, fun j hj => ⟨j, hj, (b3 j hj).2.1⟩, ⟨2 ^ M - 1, by omega, a4⟩, a5⟩, ⟨⟨?_, ?_, ?_, ?_, ?_⟩, fun k hk => ⟨?_, ?_, ?_, ?_, ?_, ?_⟩, fun l hl => ⟨?_, ?_, ?_, fun z => ?_⟩⟩, ⟨fun j hj => (b3 j hj).2.1, fun j _ => anyI _⟩, fun k h1 h2 => ?_, 0, by omega, a3, fun l hl z => ?_⟩
  · obtain ⟨-, -, z6, a, b, c, z1, z2, z3, z4, z5, z7, z8, z9⟩ := a6 k hk
    exact ⟨a, b, c, 0, z1, z2, z3, z4, z5, z7, z8, z9, by omega, z6⟩
  · obtain ⟨-, -, a, b, z1, z2, z3, z4, z5⟩ := b3 l hl
    exact ⟨a, b, z1, z2, z3, by omega, z5⟩
  · rw [hs 1 (by omega), if_neg (by omega), if_neg (by omega)]; exact d4.symm
  · rw [hs 0 (by omega), if_neg (by omega), if_neg (by omega), d5 0 (by omega)]; exact a3
  · rw [hd 0 (by omega), d0]; exact a1
  · rw [hd 1 (by omega), d1]; exact b1
  · rw [hs 2 (by omega), if_pos rfl]; exact a4
  · rw [hd _ (by omega)]; exact (d2 k hk).1.symm
  · rw [hd _ (by omega)]; exact (d2 k hk).2.1.symm
  · rw [hd _ (by omega)]; exact (d2 k hk).2.2.symm
  · rw [hs _ (by omega), if_neg (by omega), if_pos (by omega)]; exact (a6 k hk).1
  · rw [hs _ (by omega), if_neg (by omega), if_neg (by omega), d5 _ (by omega)]; exact (a6 k hk).2.1
  · rw [hs _ (by omega), if_neg (by omega), if_neg (by omega), d5 _ (by omega)]; exact (a6 k hk).2.2.1
  · rw [hs _ (by omega), if_neg (by omega), if_neg (by omega)]; exact (d3 l hl).1.symm
  · rw [hs _ (by omega), if_neg (by omega), if_neg (by omega)]; exact (d3 l hl).2.symm
  · rw [hs _ (by omega), if_neg (by omega), if_neg (by omega), d5 _ (by omega)]; exact (b3 l hl).1
  · rw [(b3 l hl).1] at z; exact absurd z (by decide)
  · rw [hs _ (by omega), if_neg (by omega), if_neg (by omega), d5 _ (by omega)]
  · rw [(b3 l hl).1] at z; exact absurd z (by decide)
def zf (w : Hv) (a j : Nat) : Hv := fun x y => if x = a ∧ y < j then 0 else w x y
theorem zf_s {w : Hv} {a j : Nat} : hset (zf w a j) a j 0 = zf w a (j + 1) := by
  funext x y
  unfold hset zf
  by_cases h1 : x = a ∧ y = j
  · rw [if_pos h1, if_pos (by omega)]
  · rw [if_neg h1]
    by_cases h2 : x = a ∧ y < j
    · rw [if_pos h2, if_pos (by omega)]
    · rw [if_neg h2, if_neg (by omega)]
theorem zf_0 {w : Hv} {a : Nat} : zf w a 0 = w := by
  funext x y
  unfold zf
  rw [if_neg (by omega)]
theorem zf_j {w : Hv} {a j x y : Nat} (h : x ≠ a) : zf w a j x y = w x y := if_neg (fun z => h z.1)
theorem lp_zd {h w : Hv} {P : Option Value → Hv → Prop} (kx : GdH M_X7_reads 4 21 [some (.ref 360), some (.int (nI 17)), none] [] (mu h (zf w 5 17)) P) : ∀ (n j : Nat), j + n = 17 → GdH M_X7_reads 4 2 [some (.ref 360), some (.int (nI j)), none] [] (mu h (zf w 5 j)) P := by
  intro n
  induction n with
  | zero =>
    intro j hj
    have hj' : j = 17 := by omega
    rw [hj']
    refine g_iload_n d_X7_reads_2 rfl ?_
    refine g_bipush d_X7_reads_3 bk_17 ?_
    refine g_icmp_ge d_X7_reads_5 (fun c5 => ?_) (fun c5 => absurd (nI_le (a := 17) (b := 17) (Nat.le_refl _) (by omega)) c5)
    exact kx
  | succ n ih =>
    intro j hj
    refine g_iload_n d_X7_reads_2 rfl ?_
    refine g_bipush d_X7_reads_3 bk_17 ?_
    refine g_icmp_ge d_X7_reads_5 (fun c5 => absurd c5 (nI_ge (a := j) (b := 17) (by omega) (by omega))) (fun c5 => ?_)
    refine g_aload_n d_X7_reads_8 rfl ?_
    refine h_getR d_X7_reads_9 fl_7_22 sp_M rfl ?_
    refine g_iload_n d_X7_reads_12 rfl ?_
    refine g_iconst d_X7_reads_13 ik_0 ?_
    refine mm_astE (k := j) d_X7_reads_14 (j := 5) sp_m_draft rfl (by decide) rfl (by omega) (by decide) ?_
    refine w_iinc (L' := [_, _, _]) d_X7_reads_15 ik_1 rfl rfl rfl rfl ?_
    refine g_goto d_X7_reads_18 ?_
    have q := ih (j + 1) (by omega)
    rw [← zf_s] at q
    rw [nI_1]
    exact q
theorem lp_zn {h w : Hv} {P : Option Value → Hv → Prop} (kx : GdH M_X7_reads 4 42 [some (.ref 360), some (.int (nI 42)), none] [] (mu h (zf w 6 42)) P) : ∀ (n j : Nat), j + n = 42 → GdH M_X7_reads 4 23 [some (.ref 360), some (.int (nI j)), none] [] (mu h (zf w 6 j)) P := by
  intro n
  induction n with
  | zero =>
    intro j hj
    have hj' : j = 42 := by omega
    rw [hj']
    refine g_iload_n d_X7_reads_23 rfl ?_
    refine g_bipush d_X7_reads_24 bk_42 ?_
    refine g_icmp_ge d_X7_reads_26 (fun c26 => ?_) (fun c26 => absurd (nI_le (a := 42) (b := 42) (Nat.le_refl _) (by omega)) c26)
    exact kx
  | succ n ih =>
    intro j hj
    refine g_iload_n d_X7_reads_23 rfl ?_
    refine g_bipush d_X7_reads_24 bk_42 ?_
    refine g_icmp_ge d_X7_reads_26 (fun c26 => absurd c26 (nI_ge (a := j) (b := 42) (by omega) (by omega))) (fun c26 => ?_)
    refine g_aload_n d_X7_reads_29 rfl ?_
    refine h_getR d_X7_reads_30 fl_7_25 sp_M rfl ?_
    refine g_iload_n d_X7_reads_33 rfl ?_
    refine g_iconst d_X7_reads_34 ik_0 ?_
    refine mm_astE (k := j) d_X7_reads_35 (j := 6) sp_m_draftNow rfl (by decide) rfl (by omega) (by decide) ?_
    refine w_iinc (L' := [_, _, _]) d_X7_reads_36 ik_1 rfl rfl rfl rfl ?_
    refine g_goto d_X7_reads_39 ?_
    have q := ih (j + 1) (by omega)
    rw [← zf_s] at q
    rw [nI_1]
    exact q
theorem m7_reads {b : Nat → Nat} {L : Nat} {h w g0 : Hv} (rb : RB b L w) : MtH M_X7_reads 4 [.ref 360] (mu h w) ((fun v' h' => v' = none ∧ ∃ w2, h' = mu h w2 ∧ (match pAll b L g0 with | .ok (M, N, g) => FrD w w2 ∧ w2 0 11 = 0 ∧ DR M N g w2 | .error e => FY w w2 e))) := by
  refine MtH.of [some (.ref 360), none, none] pl_X7 rfl rfl ?_
  refine g_iconst d_X7_reads_0 ik_0 ?_
  refine w_istore_n (L' := [_, _, _]) d_X7_reads_1 rfl rfl rfl ?_
  rw [show mu h w = mu h (zf w 5 0) by rw [zf_0]]
  refine lp_zd ?_ 17 0 rfl
  refine g_iconst d_X7_reads_21 ik_0 ?_
  refine w_istore_n (L' := [_, _, _]) d_X7_reads_22 rfl rfl rfl ?_
  rw [show mu h (zf w 5 17) = mu h (zf (zf w 5 17) 6 0) by rw [zf_0]]
  refine lp_zn ?_ 42 0 rfl
  refine g_aload_n d_X7_reads_42 rfl ?_
  refine g_iconst d_X7_reads_43 ik_0 ?_
  refine mm_putI d_X7_reads_44 fl_7_93 sp_M rfl ?_
  refine g_aload_n d_X7_reads_47 rfl ?_
  refine g_iconst d_X7_reads_48 ik_0 ?_
  refine mm_putI d_X7_reads_49 fl_7_108 sp_M rfl ?_
  have rb3 : RB b L (hset (hset (zf (zf w 5 17) 6 42) 0 7 0) 0 11 0) := ⟨by rw [hs_b (by decide), hs_b (by decide), zf_j (by decide), zf_j (by decide)]; exact rb.1, rb.2.1, fun k hk => by rw [hs_j (by decide), hs_j (by decide), zf_j (by decide), zf_j (by decide)]; exact rb.2.2 k hk⟩
  refine g_aload_n d_X7_reads_52 rfl ?_
  refine h_V0P d_X7_reads_53 cl_7_122 (m7_advances (p := 0) rb3 (Nat.zero_le _) ((hs_b (by decide)).trans hs_at)) sp_M (by decide) rfl (Nat.le_of_ble_eq_true rfl) (by decide) ?_
  intro v' h' hp
  obtain ⟨rfl, wA, rfl, fA, rA⟩ := hp
  have f0 : FrD w wA := (show FrD w (hset (hset (zf (zf w 5 17) 6 42) 0 7 0) 0 11 0) from fun x y a c d => by rw [hs_ne (by omega), hs_ne (by omega), zf_j c, zf_j a]).tr fA.d
  have zA : wA 0 11 = 0 := (fA _ _ (by omega)).trans hs_at
  refine g_aload_n d_X7_reads_56 rfl ?_
  refine g_iconst d_X7_reads_57 ik_1 ?_
  refine g_bipush d_X7_reads_58 bk_108 ?_
  refine h_V2P d_X7_reads_60 cl_7_132 (m7_takes rA zA (t := 1) (c := 108) (by decide)) sp_M (by decide) rfl (Nat.le_of_ble_eq_true rfl) (by decide) ?_
  intro u1 k1 hp1
  obtain ⟨rfl, w1, rfl, hp1⟩ := hp1
  cases hq1 : pPass b L 108 0 with
  | error e =>
    rw [hq1] at hp1
    have hr : pAll b L g0 = .error e := by
      unfold pAll pLaw
      rw [hq1]
      try dsimp only
    rw [hr]
    have y1 := f0.fy hp1.y
    have y2 := y1.set (j := 6) (y := 1) (v := 0) (by omega)
    refine g_aload_n d_X7_reads_63 rfl ?_
    refine h_getR d_X7_reads_64 fl_7_25 sp_M rfl ?_
    refine g_iconst d_X7_reads_67 ik_1 ?_
    refine g_aload_n d_X7_reads_68 rfl ?_
    refine g_iconst d_X7_reads_69 ik_1 ?_
    refine g_iconst d_X7_reads_70 ik_5 ?_
    refine h_V2i d_X7_reads_71 cl_7_128 (m7_numberX y1.2.2.2 y1.2.1) sp_M (by decide) rfl (Nat.le_of_ble_eq_true rfl) (by decide) ?_
    refine mm_astE (k := 1) d_X7_reads_74 (j := 6) sp_m_draftNow rfl (by decide) rfl (by omega) (by decide) ?_
    refine g_aload_n d_X7_reads_75 rfl ?_
    refine g_iconst d_X7_reads_76 ik_3 ?_
    refine g_bipush d_X7_reads_77 bk_59 ?_
    refine h_V2v d_X7_reads_79 cl_7_132 (m7_takesX y2.2.2.2 y2.2.1) sp_M (by decide) rfl (Nat.le_of_ble_eq_true rfl) (by decide) ?_
    exact lp_rx y2 ⟨rfl, _, rfl, y2⟩ _ _
  | ok r1 =>
    rw [hq1] at hp1
    obtain ⟨f1, r1'⟩ := hp1
    have z1 : w1 0 11 = 0 := (f1 _ _ (by omega)).trans zA
    refine g_aload_n d_X7_reads_63 rfl ?_
    refine h_getR d_X7_reads_64 fl_7_25 sp_M rfl ?_
    refine g_iconst d_X7_reads_67 ik_1 ?_
    refine g_aload_n d_X7_reads_68 rfl ?_
    refine g_iconst d_X7_reads_69 ik_1 ?_
    refine g_iconst d_X7_reads_70 ik_5 ?_
    refine h_V2P d_X7_reads_71 cl_7_128 (m7_number r1' z1 (lo := 1) (hi := 5) (by decide) (by decide)) sp_M (by decide) rfl (Nat.le_of_ble_eq_true rfl) (by decide) ?_
    intro u2 k2 hp2
    cases hq2 : pNum b L 1 5 r1 with
    | error e =>
      rw [hq2] at hp2
      obtain ⟨r9, w4, rfl, rfl, hX⟩ := hp2
      have hr : pAll b L g0 = .error e := by
        unfold pAll pLaw
        rw [hq1]
        try dsimp only
        rw [hq2]
        try dsimp only
      rw [hr]
      have y2 := ((f0.tr f1.d).fy hX.y).set (j := 6) (y := 1) (v := r9) (by omega)
      refine mm_astE (k := 1) d_X7_reads_74 (j := 6) sp_m_draftNow rfl (by decide) rfl (by omega) (by decide) ?_
      refine g_aload_n d_X7_reads_75 rfl ?_
      refine g_iconst d_X7_reads_76 ik_3 ?_
      refine g_bipush d_X7_reads_77 bk_59 ?_
      refine h_V2v d_X7_reads_79 cl_7_132 (m7_takesX y2.2.2.2 y2.2.1) sp_M (by decide) rfl (Nat.le_of_ble_eq_true rfl) (by decide) ?_
      exact lp_rx y2 ⟨rfl, _, rfl, y2⟩ _ _
    | ok r2 =>
      obtain ⟨v2, q2⟩ := r2
      rw [hq2] at hp2
      obtain ⟨rfl, w4, rfl, f4, r4⟩ := hp2
      have s4 : RS b L (hset w4 6 1 (nI v2)) q2 := r4.sd (by omega)
      have z4 : hset w4 6 1 (nI v2) 0 11 = 0 := by rw [hs_j (by decide), f4 _ _ (by omega)]; exact z1
      refine mm_astE (k := 1) d_X7_reads_74 (j := 6) sp_m_draftNow rfl (by decide) rfl (by omega) (by decide) ?_
      refine g_aload_n d_X7_reads_75 rfl ?_
      refine g_iconst d_X7_reads_76 ik_3 ?_
      refine g_bipush d_X7_reads_77 bk_59 ?_
      refine h_V2P d_X7_reads_79 cl_7_132 (m7_takes s4 z4 (t := 3) (c := 59) (by decide)) sp_M (by decide) rfl (Nat.le_of_ble_eq_true rfl) (by decide) ?_
      intro u3 k3 hp3
      obtain ⟨rfl, w3, rfl, hp3⟩ := hp3
      cases hq3 : pPass b L 59 q2 with
      | error e =>
        rw [hq3] at hp3
        have hr : pAll b L g0 = .error e := by
          unfold pAll pLaw
          rw [hq1]
          try dsimp only
          rw [hq2]
          try dsimp only
          rw [hq3]
          try dsimp only
        rw [hr]
        have y3 := ((f0.tr (f1.d.tr (f4.d.set (j := 6) (by omega))))).fy hp3.y
        exact lp_rx y3 ⟨rfl, _, rfl, y3⟩ _ _
      | ok r3 =>
        rw [hq3] at hp3
        obtain ⟨f3, r3'⟩ := hp3
        have z3 : w3 0 11 = 0 := (f3 _ _ (by omega)).trans z4
        have o56 : ∀ x y, x = 5 ∨ (x = 6 ∧ y ≠ 1) → y < 42 → (x = 5 → y < 17) → w3 x y = 0 := fun x y hx hy hy5 => by
          rw [f3 _ _ (by omega), hs_ne (by omega), f4 _ _ (by omega), f1 _ _ (by omega), fA _ _ (by omega), hs_ne (by omega), hs_ne (by omega)]
          unfold zf
          rcases hx with rfl | ⟨rfl, hy1⟩
          · rw [if_neg (by omega), if_pos ⟨rfl, hy5 rfl⟩]
          · rw [if_pos ⟨rfl, hy⟩]
        have dr : DR 0 0 (hset (clrS g0) 0 0 (nI v2)) w3 := ⟨o56 5 0 (by omega) (by omega) (by omega), o56 5 1 (by omega) (by omega) (by omega), fun k hk => absurd hk (by omega), fun l hl => absurd hl (by omega), by rw [f3 _ _ (by omega), hs_at, hs_at], fun y hy => o56 6 y (by omega) (by omega) (by omega)⟩
        refine h_weaken (lp_rm7 5 0 r3 _ w3 rfl r3' z3 dr _ _) ?_
        intro v' h' hp
        obtain ⟨rfl, w9, rfl, hp⟩ := hp
        refine ⟨rfl, w9, rfl, ?_⟩
        have fT : FrD w w3 := (f0.tr (f1.d.tr (f4.d.set (j := 6) (by omega)))).tr f3.d
        have hlaw : pLaw b L 0 = .ok (v2, r3) := by
          unfold pLaw
          rw [hq1]
          dsimp only
          rw [hq2]
          dsimp only
          rw [hq3]
        unfold pAll
        rw [hlaw]
        dsimp only
        cases hx : pMs b L 6 0 r3 (hset (clrS g0) 0 0 (nI v2)) with
        | error e => rw [hx] at hp; exact fT.fy hp
        | ok r =>
          obtain ⟨M', q', g'⟩ := r
          rw [hx] at hp
          dsimp only at hp ⊢
          cases hy : pLs b L 7 0 q' g' with
          | error e => rw [hy] at hp; exact fT.fy hp
          | ok r =>
            obtain ⟨N', g''⟩ := r
            rw [hy] at hp
            exact ⟨fT.tr hp.1, hp.2.1, hp.2.2⟩

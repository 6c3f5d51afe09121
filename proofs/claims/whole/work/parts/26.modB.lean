/-! the reference's tick -/
def JJ (ja jb : Nat) : Prop := (ja = 7 ∧ jb = 8) ∨ (ja = 9 ∧ jb = 10)
def PO (h w : Hv) (ja jb M N : Nat) (g' : Hv) (c : Int32) : Option Value → Hv → Prop := fun v' h' => v' = none ∧ ∃ w', h' = mu h w' ∧ RepM M N g' w' ja jb ∧ FrM M w w' jb ∧ w' 0 21 = w 0 21 + c
theorem FrM.set {M : Nat} {w w' : Hv} {jb y : Nat} {v : Int32} (h : FrM M w w' jb) (hy : ¬ (13 + M ≤ y ∧ y < 18) := by omega) : FrM M w (hset w' jb y v) jb := fun a b ha hb => (hs_ne (fun q => by rw [q.1, q.2] at ha; rcases ha with z | z; exact z rfl; exact hy z)).trans (h a b ha hb)
theorem FrM.dry {M : Nat} {w w' : Hv} {jb : Nat} {v : Int32} (h : FrM M w w' jb) : FrM M w (hset w' 0 21 v) jb := fun a b ha hb => (hs_ne hb).trans (h a b ha hb)
theorem rep_5 {M N ja jb : Nat} {g w : Hv} (hR : RepM M N g w ja jb) (hJ : JJ ja jb) (hM5 : M ≤ 5) (hN6 : N ≤ 6) {k : Nat} {v : Int32} (hk : k < M) : RepM M N (hset g 5 k v) (hset w jb (8 + k) v) ja jb := by
  unfold JJ at hJ
  obtain ⟨⟨a0, a1, a2, a3, a4⟩, hb, hc, hd⟩ := hR
  refine ⟨⟨?_, ?_, ?_, ?_, ?_⟩, fun k' hk' => ?_, fun l' hl' => ?_, fun j' hj' => ?_⟩
  · unfold hset; repeat' split
    all_goals first | assumption | rfl | omega
  · unfold hset; repeat' split
    all_goals first | assumption | rfl | omega
  · unfold hset; repeat' split
    all_goals first | assumption | rfl | omega
  · unfold hset; repeat' split
    all_goals first | assumption | rfl | omega
  · unfold hset; repeat' split
    all_goals first | assumption | rfl | omega
  · obtain ⟨b1, b2, b3, b4, b5, b6⟩ := hb k' hk'
    unfold hset
    refine ⟨?_, ?_, ?_, ?_, ?_, ?_⟩
    all_goals repeat' split
    all_goals first | assumption | rfl | omega
  · obtain ⟨c1, c2, c3, c4⟩ := hc l' hl'
    unfold hset
    refine ⟨?_, ?_, ?_, ?_⟩
    all_goals repeat' split
    all_goals first | assumption | rfl | omega | (intro e9; first | rfl | exact absurd e9 h9 | exact c4 e9 | omega) | skip
  · have d1 := hd j' hj'
    unfold hset
    repeat' split
    all_goals first | assumption | rfl | omega
theorem rep_4 {M N ja jb : Nat} {g w : Hv} (hR : RepM M N g w ja jb) (hJ : JJ ja jb) (hM5 : M ≤ 5) (hN6 : N ≤ 6) {k : Nat} {v : Int32} (hk : k < M) : RepM M N (hset g 4 k v) (hset w jb (3 + k) v) ja jb := by
  unfold JJ at hJ
  obtain ⟨⟨a0, a1, a2, a3, a4⟩, hb, hc, hd⟩ := hR
  refine ⟨⟨?_, ?_, ?_, ?_, ?_⟩, fun k' hk' => ?_, fun l' hl' => ?_, fun j' hj' => ?_⟩
  · unfold hset; repeat' split
    all_goals first | assumption | rfl | omega
  · unfold hset; repeat' split
    all_goals first | assumption | rfl | omega
  · unfold hset; repeat' split
    all_goals first | assumption | rfl | omega
  · unfold hset; repeat' split
    all_goals first | assumption | rfl | omega
  · unfold hset; repeat' split
    all_goals first | assumption | rfl | omega
  · obtain ⟨b1, b2, b3, b4, b5, b6⟩ := hb k' hk'
    unfold hset
    refine ⟨?_, ?_, ?_, ?_, ?_, ?_⟩
    all_goals repeat' split
    all_goals first | assumption | rfl | omega
  · obtain ⟨c1, c2, c3, c4⟩ := hc l' hl'
    unfold hset
    refine ⟨?_, ?_, ?_, ?_⟩
    all_goals repeat' split
    all_goals first | assumption | rfl | omega | (intro e9; first | rfl | exact absurd e9 h9 | exact c4 e9 | omega) | skip
  · have d1 := hd j' hj'
    unfold hset
    repeat' split
    all_goals first | assumption | rfl | omega
theorem rep_6 {M N ja jb : Nat} {g w : Hv} (hR : RepM M N g w ja jb) (hJ : JJ ja jb) (hM5 : M ≤ 5) (hN6 : N ≤ 6) {k : Nat} {v : Int32} (hk : k < M) : RepM M N (hset g 6 k v) (hset w jb (13 + k) v) ja jb := by
  unfold JJ at hJ
  obtain ⟨⟨a0, a1, a2, a3, a4⟩, hb, hc, hd⟩ := hR
  refine ⟨⟨?_, ?_, ?_, ?_, ?_⟩, fun k' hk' => ?_, fun l' hl' => ?_, fun j' hj' => ?_⟩
  · unfold hset; repeat' split
    all_goals first | assumption | rfl | omega
  · unfold hset; repeat' split
    all_goals first | assumption | rfl | omega
  · unfold hset; repeat' split
    all_goals first | assumption | rfl | omega
  · unfold hset; repeat' split
    all_goals first | assumption | rfl | omega
  · unfold hset; repeat' split
    all_goals first | assumption | rfl | omega
  · obtain ⟨b1, b2, b3, b4, b5, b6⟩ := hb k' hk'
    unfold hset
    refine ⟨?_, ?_, ?_, ?_, ?_, ?_⟩
    all_goals repeat' split
    all_goals first | assumption | rfl | omega
  · obtain ⟨c1, c2, c3, c4⟩ := hc l' hl'
    unfold hset
    refine ⟨?_, ?_, ?_, ?_⟩
    all_goals repeat' split
    all_goals first | assumption | rfl | omega | (intro e9; first | rfl | exact absurd e9 h9 | exact c4 e9 | omega) | skip
  · have d1 := hd j' hj'
    unfold hset
    repeat' split
    all_goals first | assumption | rfl | omega
theorem rep_9 {M N ja jb : Nat} {g w : Hv} (hR : RepM M N g w ja jb) (hJ : JJ ja jb) (hM5 : M ≤ 5) (hN6 : N ≤ 6) {l : Nat} {v : Int32} (hl : l < N) (h9 : ¬ v = 2) : RepM M N (hset g 9 l v) (hset w jb (30 + l) v) ja jb := by
  unfold JJ at hJ
  obtain ⟨⟨a0, a1, a2, a3, a4⟩, hb, hc, hd⟩ := hR
  refine ⟨⟨?_, ?_, ?_, ?_, ?_⟩, fun k' hk' => ?_, fun l' hl' => ?_, fun j' hj' => ?_⟩
  · unfold hset; repeat' split
    all_goals first | assumption | rfl | omega
  · unfold hset; repeat' split
    all_goals first | assumption | rfl | omega
  · unfold hset; repeat' split
    all_goals first | assumption | rfl | omega
  · unfold hset; repeat' split
    all_goals first | assumption | rfl | omega
  · unfold hset; repeat' split
    all_goals first | assumption | rfl | omega
  · obtain ⟨b1, b2, b3, b4, b5, b6⟩ := hb k' hk'
    unfold hset
    refine ⟨?_, ?_, ?_, ?_, ?_, ?_⟩
    all_goals repeat' split
    all_goals first | assumption | rfl | omega
  · obtain ⟨c1, c2, c3, c4⟩ := hc l' hl'
    unfold hset
    refine ⟨?_, ?_, ?_, ?_⟩
    all_goals repeat' split
    all_goals first | assumption | rfl | omega | (intro e9; first | rfl | exact absurd e9 h9 | exact c4 e9 | omega) | skip
  · have d1 := hd j' hj'
    unfold hset
    repeat' split
    all_goals first | assumption | rfl | omega
theorem rep_9e {M N ja jb : Nat} {g w : Hv} (hR : RepM M N g w ja jb) (hJ : JJ ja jb) (hM5 : M ≤ 5) (hN6 : N ≤ 6) {l : Nat} {v u : Int32} (hl : l < N) (h9 : ¬ v = 2) : RepM M N (hset g 9 l v) (hset (hset w jb (30 + l) v) jb (36 + l) u) ja jb := by
  unfold JJ at hJ
  obtain ⟨⟨a0, a1, a2, a3, a4⟩, hb, hc, hd⟩ := hR
  refine ⟨⟨?_, ?_, ?_, ?_, ?_⟩, fun k' hk' => ?_, fun l' hl' => ?_, fun j' hj' => ?_⟩
  · unfold hset; repeat' split
    all_goals first | assumption | rfl | omega
  · unfold hset; repeat' split
    all_goals first | assumption | rfl | omega
  · unfold hset; repeat' split
    all_goals first | assumption | rfl | omega
  · unfold hset; repeat' split
    all_goals first | assumption | rfl | omega
  · unfold hset; repeat' split
    all_goals first | assumption | rfl | omega
  · obtain ⟨b1, b2, b3, b4, b5, b6⟩ := hb k' hk'
    unfold hset
    refine ⟨?_, ?_, ?_, ?_, ?_, ?_⟩
    all_goals repeat' split
    all_goals first | assumption | rfl | omega
  · obtain ⟨c1, c2, c3, c4⟩ := hc l' hl'
    unfold hset
    refine ⟨?_, ?_, ?_, ?_⟩
    all_goals repeat' split
    all_goals first | assumption | rfl | omega | (intro e9; first | rfl | exact absurd e9 h9 | exact c4 e9 | omega) | skip
  · have d1 := hd j' hj'
    unfold hset
    repeat' split
    all_goals first | assumption | rfl | omega
theorem rep_9d {M N ja jb : Nat} {g w : Hv} (hR : RepM M N g w ja jb) (hJ : JJ ja jb) (hM5 : M ≤ 5) (hN6 : N ≤ 6) {l : Nat} {u : Int32} (hl : l < N) : RepM M N (hset (hset g 9 l 2) 10 l u) (hset (hset w jb (30 + l) 2) jb (36 + l) u) ja jb := by
  unfold JJ at hJ
  obtain ⟨⟨a0, a1, a2, a3, a4⟩, hb, hc, hd⟩ := hR
  refine ⟨⟨?_, ?_, ?_, ?_, ?_⟩, fun k' hk' => ?_, fun l' hl' => ?_, fun j' hj' => ?_⟩
  · unfold hset; repeat' split
    all_goals first | assumption | rfl | omega
  · unfold hset; repeat' split
    all_goals first | assumption | rfl | omega
  · unfold hset; repeat' split
    all_goals first | assumption | rfl | omega
  · unfold hset; repeat' split
    all_goals first | assumption | rfl | omega
  · unfold hset; repeat' split
    all_goals first | assumption | rfl | omega
  · obtain ⟨b1, b2, b3, b4, b5, b6⟩ := hb k' hk'
    unfold hset
    refine ⟨?_, ?_, ?_, ?_, ?_, ?_⟩
    all_goals repeat' split
    all_goals first | assumption | rfl | omega
  · obtain ⟨c1, c2, c3, c4⟩ := hc l' hl'
    unfold hset
    refine ⟨?_, ?_, ?_, ?_⟩
    all_goals repeat' split
    all_goals first | assumption | rfl | omega | (intro e9; first | rfl | exact absurd e9 h9 | exact c4 e9 | omega) | skip
  · have d1 := hd j' hj'
    unfold hset
    repeat' split
    all_goals first | assumption | rfl | omega
theorem rep_01 {M N ja jb : Nat} {g w : Hv} (hR : RepM M N g w ja jb) (hJ : JJ ja jb) (hM5 : M ≤ 5) (hN6 : N ≤ 6) {v : Int32} : RepM M N (hset g 0 1 v) (hset w jb 0 v) ja jb := by
  unfold JJ at hJ
  obtain ⟨⟨a0, a1, a2, a3, a4⟩, hb, hc, hd⟩ := hR
  refine ⟨⟨?_, ?_, ?_, ?_, ?_⟩, fun k' hk' => ?_, fun l' hl' => ?_, fun j' hj' => ?_⟩
  · unfold hset; repeat' split
    all_goals first | assumption | rfl | omega
  · unfold hset; repeat' split
    all_goals first | assumption | rfl | omega
  · unfold hset; repeat' split
    all_goals first | assumption | rfl | omega
  · unfold hset; repeat' split
    all_goals first | assumption | rfl | omega
  · unfold hset; repeat' split
    all_goals first | assumption | rfl | omega
  · obtain ⟨b1, b2, b3, b4, b5, b6⟩ := hb k' hk'
    unfold hset
    refine ⟨?_, ?_, ?_, ?_, ?_, ?_⟩
    all_goals repeat' split
    all_goals first | assumption | rfl | omega
  · obtain ⟨c1, c2, c3, c4⟩ := hc l' hl'
    unfold hset
    refine ⟨?_, ?_, ?_, ?_⟩
    all_goals repeat' split
    all_goals first | assumption | rfl | omega | (intro e9; first | rfl | exact absurd e9 h9 | exact c4 e9 | omega) | skip
  · have d1 := hd j' hj'
    unfold hset
    repeat' split
    all_goals first | assumption | rfl | omega
theorem rep_dry {M N ja jb : Nat} {g w : Hv} {v : Int32} (hR : RepM M N g w ja jb) (hJ : JJ ja jb) : RepM M N g (hset w 0 21 v) ja jb := by
  have h7 : ja ≠ 0 := by unfold JJ at hJ; omega
  have h8 : jb ≠ 0 := by unfold JJ at hJ; omega
  obtain ⟨⟨a0, a1, a2, a3, a4⟩, hb, hc, hd⟩ := hR
  refine ⟨⟨?_, ?_, ?_, ?_, ?_⟩, fun k' hk' => ?_, fun l' hl' => ?_, fun j' hj' => ?_⟩
  · rw [hs_j h8]; exact a0
  · rw [hs_j h8]; exact a1
  · rw [hs_j h7]; exact a2
  · rw [hs_j h7]; exact a3
  · rw [hs_j h8]; exact a4
  · simp only [hs_j h7, hs_j h8]; exact hb k' hk'
  · simp only [hs_j h8]; exact hc l' hl'
  · rw [hs_j (by decide)]; exact hd j' hj'
theorem m7_outA {h w g : Hv} {M N ja jb A a : Nat} (hA : AR A ja 17) (ha : AR a jb 42) (hJ : JJ ja jb) (hR : RepM M N g w ja jb) (hI : HI M N g) {k l t : Nat} (hk : k < M) (hl : l < N) (e4 : g 4 k = nI l) (e5 : g 5 k = nI t) (ht9 : t < 1000) {m : Int32} (em : m = nI k) (ht : 1 < t) : MtH M_X7_comesOut 1 [.ref 360, .ref A, .ref a, .int m] (mu h w) (PO h w ja jb M N (hset g 5 k (g 5 k - 1)) 0) := by
  subst em
  have hM5 := hI.hM5
  have hN6 := hI.hN6
  refine MtH.of [some (.ref 360), some (.ref A), some (.ref a), some (.int (nI k)), none, none] pl_X7 rfl rfl ?_
  refine g_aload_n d_X7_comesOut_0 rfl ?_
  refine g_iconst d_X7_comesOut_1 ik_3 ?_
  refine g_iload_n d_X7_comesOut_2 rfl ?_
  refine g_iadd d_X7_comesOut_3 ?_
  refine mm_aldV (k := (3 + k)) (v := nI l) d_X7_comesOut_4 ha.1 ha.2.1 ha.2.2 (nAdd rfl rfl) (by omega) (by decide) ((hR.2.1 k hk).2.2.2.1.symm.trans e4) ?_
  refine w_istore (L' := [_, _, _, _, _, _]) d_X7_comesOut_5 rfl rfl rfl ?_
  refine g_aload_n d_X7_comesOut_7 rfl ?_
  refine g_bipush d_X7_comesOut_8 bk_8 ?_
  refine g_iload_n d_X7_comesOut_10 rfl ?_
  refine g_iadd d_X7_comesOut_11 ?_
  refine g_dup2 d_X7_comesOut_12 rfl rfl ?_
  refine mm_aldV (k := (8 + k)) (v := nI t) d_X7_comesOut_13 ha.1 ha.2.1 ha.2.2 (nAdd rfl rfl) (by omega) (by decide) ((hR.2.1 k hk).2.2.2.2.1.symm.trans e5) ?_
  refine g_iconst d_X7_comesOut_14 ik_1 ?_
  refine g_isub d_X7_comesOut_15 ?_
  refine mm_astE (k := (8 + k)) d_X7_comesOut_16 ha.1 ha.2.1 ha.2.2 (nAdd rfl rfl) (by omega) (by decide) ?_
  refine g_aload_n d_X7_comesOut_17 rfl ?_
  refine g_bipush d_X7_comesOut_18 bk_8 ?_
  refine g_iload_n d_X7_comesOut_20 rfl ?_
  refine g_iadd d_X7_comesOut_21 ?_
  refine mm_aldV (k := (8 + k)) (v := nI t - 1) d_X7_comesOut_22 ha.1 ha.2.1 ha.2.2 (nAdd rfl rfl) (by omega) (by decide) (hs_at) ?_
  refine g_if_ne d_X7_comesOut_23 (fun c23 => ?_) (fun c23 => absurd c23 (by rw [show (1 : Int32) = nI 1 from rfl, pk_sub (by omega)]; exact nI_ne0 (by omega) (by omega)))
  refine h_vret d_X7_comesOut_131 rfl ?_
  exact ⟨rfl, _, rfl, by rw [e5]; exact rep_5 hR hJ hM5 hN6 hk, FrM.rf.set, by rw [hs_j (by unfold JJ at hJ; omega), Int32.add_zero]⟩
theorem done_inc {d : Nat} (hd : d ≤ 999) : (if nI d + 1 < 999 then nI d + 1 else 999) = nI d + (if 999 ≤ nI d then 0 else 1) := by
  rw [nI_1]
  by_cases h : d = 999
  · subst h; rfl
  · rw [if_neg (show ¬ (999 : Int32) ≤ nI d from nI_ge (a := d) (b := 999) (by omega) (by omega))]
    by_cases h2 : d = 998
    · subst h2; rfl
    · rw [if_pos (show nI (d + 1) < 999 from (nI_ltI (a := d + 1) (b := 999) (by omega) (by omega)).mpr (by omega)), nI_1]
theorem hs_cm {g : Hv} {a b c d : Nat} {u v : Int32} (h : a ≠ c) : hset (hset g a b u) c d v = hset (hset g c d v) a b u := by
  funext x y
  unfold hset
  by_cases h1 : x = c ∧ y = d
  · rw [if_pos h1, if_neg (fun q => h (q.1.symm.trans h1.1)), if_pos h1]
  · rw [if_neg h1]
    by_cases h2 : x = a ∧ y = b
    · rw [if_pos h2, if_pos h2]
    · rw [if_neg h2, if_neg h2, if_neg h1]
theorem hs_id {g : Hv} {a b : Nat} {v : Int32} (h : g a b = v) : hset g a b v = g := by rw [← h]; exact hs_self
theorem outS_we {g : Hv} {k l q d : Nat} (e1 : g 1 k = nI q) (hq : q ≤ 3) (e6 : g 6 k = nI d) (hd : d ≤ 999) : outS (hset g 5 k (nI 1 - 1)) k l = hset (hset (hset (hset g 5 k (nI 1 - 1)) 9 l 1) 4 k (-1)) 6 k (nI d + (if 999 ≤ nI d then 0 else 1)) := by
  unfold outS
  rw [hs_j (x := 1) (by decide), hs_j (x := 6) (by decide), e1, e6, if_pos (show nI q ≤ 3 from nI_le (b := 3) hq (by decide)), done_inc hd, hs_id (a := 5) (b := k) (v := 0) (by rw [hs_j (by decide), hs_j (by decide), hs_at]; rfl)]
theorem outS_dr {g : Hv} {k l q d : Nat} (e1 : g 1 k = nI q) (hq : 3 < q) (hq6 : q < 6) (e6 : g 6 k = nI d) (hd : d ≤ 999) : outS (hset g 5 k (nI 1 - 1)) k l = hset (hset (hset (hset (hset g 5 k (nI 1 - 1)) 9 l 2) 10 l (g 0 1)) 4 k (-1)) 6 k (nI d + (if 999 ≤ nI d then 0 else 1)) := by
  unfold outS
  rw [hs_j (x := 1) (by decide), hs_j (x := 6) (by decide), hs_j (x := 0) (by decide), e1, e6, if_neg (show ¬ nI q ≤ 3 from nI_ge (a := 3) (b := q) hq (by omega)), done_inc hd, hs_id (a := 5) (b := k) (v := 0) (by rw [hs_j (by decide), hs_j (by decide), hs_j (by decide), hs_at]; rfl)]
theorem m7_outB {h w g : Hv} {M N ja jb A a : Nat} (hA : AR A ja 17) (ha : AR a jb 42) (hJ : JJ ja jb) (hR : RepM M N g w ja jb) (hI : HI M N g) {k l t : Nat} (hk : k < M) (hl : l < N) (e4 : g 4 k = nI l) (e5 : g 5 k = nI t) (ht9 : t < 1000) {m : Int32} (em : m = nI k) (ht : t = 1) {q d : Nat} (e1 : g 1 k = nI q) (hq1 : 1 ≤ q) (hq : q ≤ 3) (e6 : g 6 k = nI d) (hd : d ≤ 999) : MtH M_X7_comesOut 1 [.ref 360, .ref A, .ref a, .int m] (mu h w) (PO h w ja jb M N (outS (hset g 5 k (g 5 k - 1)) k l) 0) := by
  subst em
  subst ht
  have hM5 := hI.hM5
  have hN6 := hI.hN6
  refine MtH.of [some (.ref 360), some (.ref A), some (.ref a), some (.int (nI k)), none, none] pl_X7 rfl rfl ?_
  refine g_aload_n d_X7_comesOut_0 rfl ?_
  refine g_iconst d_X7_comesOut_1 ik_3 ?_
  refine g_iload_n d_X7_comesOut_2 rfl ?_
  refine g_iadd d_X7_comesOut_3 ?_
  refine mm_aldV (k := (3 + k)) (v := nI l) d_X7_comesOut_4 ha.1 ha.2.1 ha.2.2 (nAdd rfl rfl) (by omega) (by decide) ((hR.2.1 k hk).2.2.2.1.symm.trans e4) ?_
  refine w_istore (L' := [_, _, _, _, _, _]) d_X7_comesOut_5 rfl rfl rfl ?_
  refine g_aload_n d_X7_comesOut_7 rfl ?_
  refine g_bipush d_X7_comesOut_8 bk_8 ?_
  refine g_iload_n d_X7_comesOut_10 rfl ?_
  refine g_iadd d_X7_comesOut_11 ?_
  refine g_dup2 d_X7_comesOut_12 rfl rfl ?_
  refine mm_aldV (k := (8 + k)) (v := nI 1) d_X7_comesOut_13 ha.1 ha.2.1 ha.2.2 (nAdd rfl rfl) (by omega) (by decide) ((hR.2.1 k hk).2.2.2.2.1.symm.trans e5) ?_
  refine g_iconst d_X7_comesOut_14 ik_1 ?_
  refine g_isub d_X7_comesOut_15 ?_
  refine mm_astE (k := (8 + k)) d_X7_comesOut_16 ha.1 ha.2.1 ha.2.2 (nAdd rfl rfl) (by omega) (by decide) ?_
  refine g_aload_n d_X7_comesOut_17 rfl ?_
  refine g_bipush d_X7_comesOut_18 bk_8 ?_
  refine g_iload_n d_X7_comesOut_20 rfl ?_
  refine g_iadd d_X7_comesOut_21 ?_
  refine mm_aldV (k := (8 + k)) (v := 0) d_X7_comesOut_22 ha.1 ha.2.1 ha.2.2 (nAdd rfl rfl) (by omega) (by decide) (hs_at.trans rfl) ?_
  refine g_if_ne d_X7_comesOut_23 (fun c23 => absurd c23 (by decide)) (fun c23 => ?_)
  refine g_aload_n d_X7_comesOut_26 rfl ?_
  refine g_iconst d_X7_comesOut_27 ik_2 ?_
  refine g_iload_n d_X7_comesOut_28 rfl ?_
  refine g_iadd d_X7_comesOut_29 ?_
  refine mm_aldV (k := (2 + k)) (v := nI q) d_X7_comesOut_30 hA.1 hA.2.1 hA.2.2 (nAdd rfl rfl) (by omega) (by decide) ((hs_j (by unfold JJ at hJ; omega)).trans ((hR.2.1 k hk).1.symm.trans e1)) ?_
  refine h_S1i d_X7_comesOut_31 cl_7_152 m7_washes (Nat.le_of_ble_eq_true rfl) (by decide) ?_
  refine g_if_ne d_X7_comesOut_34 (fun c34 => ?_) (fun c34 => absurd c34 (by rw [show b2i (¬ (4 : Int32) ≤ nI q) = 1 from b2i_t (nI_ge (a := q) (b := 4) (by omega) (by omega))]; decide))
  refine g_iconst d_X7_comesOut_41 ik_0 ?_
  refine w_istore (L' := [_, _, _, _, _, _]) d_X7_comesOut_42 rfl rfl rfl ?_
  refine g_aload_n d_X7_comesOut_44 rfl ?_
  refine g_bipush d_X7_comesOut_45 bk_30 ?_
  refine g_iload d_X7_comesOut_47 rfl ?_
  refine g_iadd d_X7_comesOut_49 ?_
  refine g_iload d_X7_comesOut_50 rfl ?_
  refine g_if_eq d_X7_comesOut_52 (fun c52 => ?_) (fun c52 => absurd c52 (by decide))
  refine g_iconst d_X7_comesOut_59 ik_1 ?_
  refine mm_astE (k := (30 + l)) d_X7_comesOut_60 ha.1 ha.2.1 ha.2.2 (nAdd rfl rfl) (by omega) (by decide) ?_
  refine g_aload_n d_X7_comesOut_61 rfl ?_
  refine g_bipush d_X7_comesOut_62 bk_36 ?_
  refine g_iload d_X7_comesOut_64 rfl ?_
  refine g_iadd d_X7_comesOut_66 ?_
  refine g_iload d_X7_comesOut_67 rfl ?_
  refine g_if_eq d_X7_comesOut_69 (fun c69 => ?_) (fun c69 => absurd c69 (by decide))
  refine g_iconst d_X7_comesOut_78 ik_0 ?_
  refine mm_astE (k := (36 + l)) d_X7_comesOut_79 ha.1 ha.2.1 ha.2.2 (nAdd rfl rfl) (by omega) (by decide) ?_
  refine g_aload_n d_X7_comesOut_80 rfl ?_
  refine g_dup d_X7_comesOut_81 rfl ?_
  refine mm_getV (v := w 0 21) d_X7_comesOut_82 fl_7_155 sp_M rfl (by rw [hs_j (by unfold JJ at hJ; omega), hs_j (by unfold JJ at hJ; omega), hs_j (by unfold JJ at hJ; omega)]) ?_
  refine g_iload d_X7_comesOut_85 rfl ?_
  refine g_if_eq d_X7_comesOut_87 (fun c87 => ?_) (fun c87 => absurd c87 (by decide))
  refine g_iconst d_X7_comesOut_94 ik_0 ?_
  refine g_iadd d_X7_comesOut_95 ?_
  refine mm_putI d_X7_comesOut_96 fl_7_155 sp_M rfl ?_
  refine g_aload_n d_X7_comesOut_99 rfl ?_
  refine g_iconst d_X7_comesOut_100 ik_3 ?_
  refine g_iload_n d_X7_comesOut_101 rfl ?_
  refine g_iadd d_X7_comesOut_102 ?_
  refine g_iconst d_X7_comesOut_103 ik_m1 ?_
  refine mm_astE (k := (3 + k)) d_X7_comesOut_104 ha.1 ha.2.1 ha.2.2 (nAdd rfl rfl) (by omega) (by decide) ?_
  refine g_aload_n d_X7_comesOut_105 rfl ?_
  refine g_bipush d_X7_comesOut_106 bk_13 ?_
  refine g_iload_n d_X7_comesOut_108 rfl ?_
  refine g_iadd d_X7_comesOut_109 ?_
  refine g_dup2 d_X7_comesOut_110 rfl rfl ?_
  refine mm_aldV (k := (13 + k)) (v := nI d) d_X7_comesOut_111 ha.1 ha.2.1 ha.2.2 (nAdd rfl rfl) (by omega) (by decide) (by rw [hs_b (by omega), hs_j (by unfold JJ at hJ; omega), hs_b (by omega), hs_b (by omega), hs_b (by omega)]; exact (hR.2.1 k hk).2.2.2.2.2.symm.trans e6) ?_
  refine g_aload_n d_X7_comesOut_112 rfl ?_
  refine g_bipush d_X7_comesOut_113 bk_13 ?_
  refine g_iload_n d_X7_comesOut_115 rfl ?_
  refine g_iadd d_X7_comesOut_116 ?_
  refine mm_aldV (k := (13 + k)) (v := nI d) d_X7_comesOut_117 ha.1 ha.2.1 ha.2.2 (nAdd rfl rfl) (by omega) (by decide) (by rw [hs_b (by omega), hs_j (by unfold JJ at hJ; omega), hs_b (by omega), hs_b (by omega), hs_b (by omega)]; exact (hR.2.1 k hk).2.2.2.2.2.symm.trans e6) ?_
  refine g_sipush d_X7_comesOut_118 sk_999 ?_
  refine g_icmp_ge d_X7_comesOut_121 (fun c121 => ?_) (fun c121 => ?_)
  · refine g_iconst d_X7_comesOut_128 ik_0 ?_
    refine g_iadd d_X7_comesOut_129 ?_
    refine mm_astE (k := (13 + k)) d_X7_comesOut_130 ha.1 ha.2.1 ha.2.2 (nAdd rfl rfl) (by omega) (by decide) ?_
    refine h_vret d_X7_comesOut_131 rfl ?_
    refine ⟨rfl, _, rfl, ?_, ?_, ?_⟩
    · have hX := rep_5 (v := nI 1 - 1) hR hJ hM5 hN6 hk
      have hY := rep_9e (l := l) (v := 1) (u := 0) hX hJ hM5 hN6 hl (by decide)
      have hZ := rep_4 (v := -1) (rep_dry (v := w 0 21 + 0) hY hJ) hJ hM5 hN6 hk
      have hV := rep_6 (v := nI d + (if 999 ≤ nI d then 0 else 1)) hZ hJ hM5 hN6 hk
      rw [e5, outS_we e1 hq e6 hd]
      first | (rw [if_pos c121] at hV ⊢; exact hV) | (rw [if_neg c121] at hV ⊢; exact hV)
    · exact FrM.set (FrM.set (FrM.dry (FrM.set (FrM.set (FrM.set FrM.rf)))))
    · rw [hs_j (by unfold JJ at hJ; omega), hs_j (by unfold JJ at hJ; omega), hs_at]
  · refine g_iconst d_X7_comesOut_124 ik_1 ?_
    refine g_goto d_X7_comesOut_125 ?_
    refine g_iadd d_X7_comesOut_129 ?_
    refine mm_astE (k := (13 + k)) d_X7_comesOut_130 ha.1 ha.2.1 ha.2.2 (nAdd rfl rfl) (by omega) (by decide) ?_
    refine h_vret d_X7_comesOut_131 rfl ?_
    refine ⟨rfl, _, rfl, ?_, ?_, ?_⟩
    · have hX := rep_5 (v := nI 1 - 1) hR hJ hM5 hN6 hk
      have hY := rep_9e (l := l) (v := 1) (u := 0) hX hJ hM5 hN6 hl (by decide)
      have hZ := rep_4 (v := -1) (rep_dry (v := w 0 21 + 0) hY hJ) hJ hM5 hN6 hk
      have hV := rep_6 (v := nI d + (if 999 ≤ nI d then 0 else 1)) hZ hJ hM5 hN6 hk
      rw [e5, outS_we e1 hq e6 hd]
      first | (rw [if_pos c121] at hV ⊢; exact hV) | (rw [if_neg c121] at hV ⊢; exact hV)
    · exact FrM.set (FrM.set (FrM.dry (FrM.set (FrM.set (FrM.set FrM.rf)))))
    · rw [hs_j (by unfold JJ at hJ; omega), hs_j (by unfold JJ at hJ; omega), hs_at]
theorem m7_outC {h w g : Hv} {M N ja jb A a : Nat} (hA : AR A ja 17) (ha : AR a jb 42) (hJ : JJ ja jb) (hR : RepM M N g w ja jb) (hI : HI M N g) {k l t : Nat} (hk : k < M) (hl : l < N) (e4 : g 4 k = nI l) (e5 : g 5 k = nI t) (ht9 : t < 1000) {m : Int32} (em : m = nI k) (ht : t = 1) {q d : Nat} (e1 : g 1 k = nI q) (hq1 : 1 ≤ q) (hq : 3 < q ∧ q < 6) (e6 : g 6 k = nI d) (hd : d ≤ 999) : MtH M_X7_comesOut 1 [.ref 360, .ref A, .ref a, .int m] (mu h w) (PO h w ja jb M N (outS (hset g 5 k (g 5 k - 1)) k l) 1) := by
  subst em
  subst ht
  have hM5 := hI.hM5
  have hN6 := hI.hN6
  refine MtH.of [some (.ref 360), some (.ref A), some (.ref a), some (.int (nI k)), none, none] pl_X7 rfl rfl ?_
  refine g_aload_n d_X7_comesOut_0 rfl ?_
  refine g_iconst d_X7_comesOut_1 ik_3 ?_
  refine g_iload_n d_X7_comesOut_2 rfl ?_
  refine g_iadd d_X7_comesOut_3 ?_
  refine mm_aldV (k := (3 + k)) (v := nI l) d_X7_comesOut_4 ha.1 ha.2.1 ha.2.2 (nAdd rfl rfl) (by omega) (by decide) ((hR.2.1 k hk).2.2.2.1.symm.trans e4) ?_
  refine w_istore (L' := [_, _, _, _, _, _]) d_X7_comesOut_5 rfl rfl rfl ?_
  refine g_aload_n d_X7_comesOut_7 rfl ?_
  refine g_bipush d_X7_comesOut_8 bk_8 ?_
  refine g_iload_n d_X7_comesOut_10 rfl ?_
  refine g_iadd d_X7_comesOut_11 ?_
  refine g_dup2 d_X7_comesOut_12 rfl rfl ?_
  refine mm_aldV (k := (8 + k)) (v := nI 1) d_X7_comesOut_13 ha.1 ha.2.1 ha.2.2 (nAdd rfl rfl) (by omega) (by decide) ((hR.2.1 k hk).2.2.2.2.1.symm.trans e5) ?_
  refine g_iconst d_X7_comesOut_14 ik_1 ?_
  refine g_isub d_X7_comesOut_15 ?_
  refine mm_astE (k := (8 + k)) d_X7_comesOut_16 ha.1 ha.2.1 ha.2.2 (nAdd rfl rfl) (by omega) (by decide) ?_
  refine g_aload_n d_X7_comesOut_17 rfl ?_
  refine g_bipush d_X7_comesOut_18 bk_8 ?_
  refine g_iload_n d_X7_comesOut_20 rfl ?_
  refine g_iadd d_X7_comesOut_21 ?_
  refine mm_aldV (k := (8 + k)) (v := 0) d_X7_comesOut_22 ha.1 ha.2.1 ha.2.2 (nAdd rfl rfl) (by omega) (by decide) (hs_at.trans rfl) ?_
  refine g_if_ne d_X7_comesOut_23 (fun c23 => absurd c23 (by decide)) (fun c23 => ?_)
  refine g_aload_n d_X7_comesOut_26 rfl ?_
  refine g_iconst d_X7_comesOut_27 ik_2 ?_
  refine g_iload_n d_X7_comesOut_28 rfl ?_
  refine g_iadd d_X7_comesOut_29 ?_
  refine mm_aldV (k := (2 + k)) (v := nI q) d_X7_comesOut_30 hA.1 hA.2.1 hA.2.2 (nAdd rfl rfl) (by omega) (by decide) ((hs_j (by unfold JJ at hJ; omega)).trans ((hR.2.1 k hk).1.symm.trans e1)) ?_
  refine h_S1i d_X7_comesOut_31 cl_7_152 m7_washes (Nat.le_of_ble_eq_true rfl) (by decide) ?_
  refine g_if_ne d_X7_comesOut_34 (fun c34 => absurd c34 (by rw [show b2i (¬ (4 : Int32) ≤ nI q) = 0 from b2i_f (fun c => c (nI_le (a := 4) (by omega) (by omega)))]; decide)) (fun c34 => ?_)
  refine g_iconst d_X7_comesOut_37 ik_1 ?_
  refine g_goto d_X7_comesOut_38 ?_
  refine w_istore (L' := [_, _, _, _, _, _]) d_X7_comesOut_42 rfl rfl rfl ?_
  refine g_aload_n d_X7_comesOut_44 rfl ?_
  refine g_bipush d_X7_comesOut_45 bk_30 ?_
  refine g_iload d_X7_comesOut_47 rfl ?_
  refine g_iadd d_X7_comesOut_49 ?_
  refine g_iload d_X7_comesOut_50 rfl ?_
  refine g_if_eq d_X7_comesOut_52 (fun c52 => absurd c52 (by decide)) (fun c52 => ?_)
  refine g_iconst d_X7_comesOut_55 ik_2 ?_
  refine g_goto d_X7_comesOut_56 ?_
  refine mm_astE (k := (30 + l)) d_X7_comesOut_60 ha.1 ha.2.1 ha.2.2 (nAdd rfl rfl) (by omega) (by decide) ?_
  refine g_aload_n d_X7_comesOut_61 rfl ?_
  refine g_bipush d_X7_comesOut_62 bk_36 ?_
  refine g_iload d_X7_comesOut_64 rfl ?_
  refine g_iadd d_X7_comesOut_66 ?_
  refine g_iload d_X7_comesOut_67 rfl ?_
  refine g_if_eq d_X7_comesOut_69 (fun c69 => absurd c69 (by decide)) (fun c69 => ?_)
  refine g_aload_n d_X7_comesOut_72 rfl ?_
  refine g_iconst d_X7_comesOut_73 ik_0 ?_
  refine mm_aldV (k := 0) (v := g 0 1) d_X7_comesOut_74 ha.1 ha.2.1 ha.2.2 rfl (by omega) (by decide) (by rw [hs_b (by omega), hs_b (by omega)]; exact hR.1.2.1.symm) ?_
  refine g_goto d_X7_comesOut_75 ?_
  refine mm_astE (k := (36 + l)) d_X7_comesOut_79 ha.1 ha.2.1 ha.2.2 (nAdd rfl rfl) (by omega) (by decide) ?_
  refine g_aload_n d_X7_comesOut_80 rfl ?_
  refine g_dup d_X7_comesOut_81 rfl ?_
  refine mm_getV (v := w 0 21) d_X7_comesOut_82 fl_7_155 sp_M rfl (by rw [hs_j (by unfold JJ at hJ; omega), hs_j (by unfold JJ at hJ; omega), hs_j (by unfold JJ at hJ; omega)]) ?_
  refine g_iload d_X7_comesOut_85 rfl ?_
  refine g_if_eq d_X7_comesOut_87 (fun c87 => absurd c87 (by decide)) (fun c87 => ?_)
  refine g_iconst d_X7_comesOut_90 ik_1 ?_
  refine g_goto d_X7_comesOut_91 ?_
  refine g_iadd d_X7_comesOut_95 ?_
  refine mm_putI d_X7_comesOut_96 fl_7_155 sp_M rfl ?_
  refine g_aload_n d_X7_comesOut_99 rfl ?_
  refine g_iconst d_X7_comesOut_100 ik_3 ?_
  refine g_iload_n d_X7_comesOut_101 rfl ?_
  refine g_iadd d_X7_comesOut_102 ?_
  refine g_iconst d_X7_comesOut_103 ik_m1 ?_
  refine mm_astE (k := (3 + k)) d_X7_comesOut_104 ha.1 ha.2.1 ha.2.2 (nAdd rfl rfl) (by omega) (by decide) ?_
  refine g_aload_n d_X7_comesOut_105 rfl ?_
  refine g_bipush d_X7_comesOut_106 bk_13 ?_
  refine g_iload_n d_X7_comesOut_108 rfl ?_
  refine g_iadd d_X7_comesOut_109 ?_
  refine g_dup2 d_X7_comesOut_110 rfl rfl ?_
  refine mm_aldV (k := (13 + k)) (v := nI d) d_X7_comesOut_111 ha.1 ha.2.1 ha.2.2 (nAdd rfl rfl) (by omega) (by decide) (by rw [hs_b (by omega), hs_j (by unfold JJ at hJ; omega), hs_b (by omega), hs_b (by omega), hs_b (by omega)]; exact (hR.2.1 k hk).2.2.2.2.2.symm.trans e6) ?_
  refine g_aload_n d_X7_comesOut_112 rfl ?_
  refine g_bipush d_X7_comesOut_113 bk_13 ?_
  refine g_iload_n d_X7_comesOut_115 rfl ?_
  refine g_iadd d_X7_comesOut_116 ?_
  refine mm_aldV (k := (13 + k)) (v := nI d) d_X7_comesOut_117 ha.1 ha.2.1 ha.2.2 (nAdd rfl rfl) (by omega) (by decide) (by rw [hs_b (by omega), hs_j (by unfold JJ at hJ; omega), hs_b (by omega), hs_b (by omega), hs_b (by omega)]; exact (hR.2.1 k hk).2.2.2.2.2.symm.trans e6) ?_
  refine g_sipush d_X7_comesOut_118 sk_999 ?_
  refine g_icmp_ge d_X7_comesOut_121 (fun c121 => ?_) (fun c121 => ?_)
  · refine g_iconst d_X7_comesOut_128 ik_0 ?_
    refine g_iadd d_X7_comesOut_129 ?_
    refine mm_astE (k := (13 + k)) d_X7_comesOut_130 ha.1 ha.2.1 ha.2.2 (nAdd rfl rfl) (by omega) (by decide) ?_
    refine h_vret d_X7_comesOut_131 rfl ?_
    refine ⟨rfl, _, rfl, ?_, ?_, ?_⟩
    · have hX := rep_5 (v := nI 1 - 1) hR hJ hM5 hN6 hk
      have hY := rep_9d (l := l) (u := g 0 1) hX hJ hM5 hN6 hl
      have hZ := rep_4 (v := -1) (rep_dry (v := w 0 21 + 1) hY hJ) hJ hM5 hN6 hk
      have hV := rep_6 (v := nI d + (if 999 ≤ nI d then 0 else 1)) hZ hJ hM5 hN6 hk
      rw [e5, outS_dr e1 hq.1 (by omega) e6 hd]
      first | (rw [if_pos c121] at hV ⊢; exact hV) | (rw [if_neg c121] at hV ⊢; exact hV)
    · exact FrM.set (FrM.set (FrM.dry (FrM.set (FrM.set (FrM.set FrM.rf)))))
    · rw [hs_j (by unfold JJ at hJ; omega), hs_j (by unfold JJ at hJ; omega), hs_at]
  · refine g_iconst d_X7_comesOut_124 ik_1 ?_
    refine g_goto d_X7_comesOut_125 ?_
    refine g_iadd d_X7_comesOut_129 ?_
    refine mm_astE (k := (13 + k)) d_X7_comesOut_130 ha.1 ha.2.1 ha.2.2 (nAdd rfl rfl) (by omega) (by decide) ?_
    refine h_vret d_X7_comesOut_131 rfl ?_
    refine ⟨rfl, _, rfl, ?_, ?_, ?_⟩
    · have hX := rep_5 (v := nI 1 - 1) hR hJ hM5 hN6 hk
      have hY := rep_9d (l := l) (u := g 0 1) hX hJ hM5 hN6 hl
      have hZ := rep_4 (v := -1) (rep_dry (v := w 0 21 + 1) hY hJ) hJ hM5 hN6 hk
      have hV := rep_6 (v := nI d + (if 999 ≤ nI d then 0 else 1)) hZ hJ hM5 hN6 hk
      rw [e5, outS_dr e1 hq.1 (by omega) e6 hd]
      first | (rw [if_pos c121] at hV ⊢; exact hV) | (rw [if_neg c121] at hV ⊢; exact hV)
    · exact FrM.set (FrM.set (FrM.dry (FrM.set (FrM.set (FrM.set FrM.rf)))))
    · rw [hs_j (by unfold JJ at hJ; omega), hs_j (by unfold JJ at hJ; omega), hs_at]
/-- whether a load comes dry from machine k at a tick -/
def drS (g : Hv) (k : Nat) : Int32 := if g 4 k = -1 then 0 else if 0 < g 5 k - 1 then 0 else if g 1 k ≤ 3 then 0 else 1
def dr1 (g : Hv) : Nat → Int32
  | 0 => 0
  | m + 1 => dr1 g m + drS (tk1 g m).1 m
theorem m7_comesOut {h w g : Hv} {M N ja jb A a : Nat} (hA : AR A ja 17) (ha : AR a jb 42) (hJ : JJ ja jb) (hR : RepM M N g w ja jb) (hI : HI M N g) {k l : Nat} (hk : k < M) (e4 : g 4 k = nI l) (hl : l < N) {m : Int32} (em : m = nI k) : MtH M_X7_comesOut 1 [.ref 360, .ref A, .ref a, .int m] (mu h w) (PO h w ja jb M N (if 0 < g 5 k - 1 then hset g 5 k (g 5 k - 1) else outS (hset g 5 k (g 5 k - 1)) k l) (drS g k)) := by
  have hN6 := hI.hN6
  have hn : ¬ g 4 k = -1 := by rw [e4]; exact nI_ne_m1 (by omega)
  obtain ⟨l', t, hl', ht1, ht9, e4', e5, e51⟩ := left_ok hI hk hn
  obtain ⟨q, b, c, d, hq1, hq5, e1, -, -, -, -, -, hd, e6⟩ := hI.mach k hk
  unfold drS
  rw [if_neg hn, e51]
  by_cases ht : 1 < t
  · rw [if_pos (show (0 : Int32) < nI (t - 1) from (nI_ltI (a := 0) (by decide) (by omega)).mpr (by omega)), if_pos (show (0 : Int32) < nI (t - 1) from (nI_ltI (a := 0) (by decide) (by omega)).mpr (by omega)), ← e51]
    exact m7_outA hA ha hJ hR hI hk hl e4 e5 ht9 em ht
  · have h1 : t = 1 := by omega
    subst h1
    rw [if_neg (show ¬ (0 : Int32) < nI (1 - 1) by decide), if_neg (show ¬ (0 : Int32) < nI (1 - 1) by decide), ← e51]
    by_cases hq : q ≤ 3
    · rw [if_pos (show g 1 k ≤ 3 by rw [e1]; exact nI_le (b := 3) hq (by decide))]
      exact m7_outB hA ha hJ hR hI hk hl e4 e5 ht9 em rfl e1 hq1 hq e6 hd
    · rw [if_neg (show ¬ g 1 k ≤ 3 by rw [e1]; exact nI_ge (a := 3) (b := q) (by omega) (by omega))]
      exact m7_outC hA ha hJ hR hI hk hl e4 e5 ht9 em rfl e1 hq1 ⟨by omega, by omega⟩ e6 hd
theorem lp_waits {h w g : Hv} {M N ja jb A a : Nat} (hA : AR A ja 17) (ha : AR a jb 42) (hJ : JJ ja jb) (hR : RepM M N g w ja jb) (hI : HI M N g) {k : Nat} (hk : k < M) {r : Int32} : ∀ (n j : Nat), j + n = N → ∀ (y : Option Value), r = oI (waitF g (wantS g k) (g 2 k) n j) → GdH M_X7_waits 1 3 [some (.ref 360), some (.ref A), some (.ref a), some (.int (nI k)), some (.int (nI j)), y] [] (mu h w) (fun v' h' => v' = some (.int r) ∧ h' = mu h w) := by
  intro n
  induction n with
  | zero =>
    intro j hj y hr
    have hM5 := hI.hM5
    have hN6 := hI.hN6
    refine g_iload d_X7_waits_3 rfl ?_
    refine g_aload_n d_X7_waits_5 rfl ?_
    refine g_iconst d_X7_waits_6 ik_1 ?_
    refine mm_aldV (k := 1) (v := nI N) d_X7_waits_7 hA.1 hA.2.1 hA.2.2 rfl (by omega) (by decide) (hR.1.2.2.2.1.symm.trans hI.hN) ?_
    refine g_icmp_ge d_X7_waits_8 (fun c8 => ?_) (fun c8 => absurd (nI_le (a := N) (b := j) (by omega) (by omega)) c8)
    refine g_iconst d_X7_waits_71 ik_m1 ?_
    refine h_iret d_X7_waits_72 rfl ?_
    exact pF (by rw [hr]; rfl) rfl
  | succ n ih =>
    intro j hj y hr
    have hM5 := hI.hM5
    have hN6 := hI.hN6
    obtain ⟨l, hl, el⟩ := hI.rank j (by omega)
    have et : (g 11 j).toNatClampNeg = l := by rw [el]; exact nI_clamp (by omega)
    rw [waitF, et] at hr
    obtain ⟨q, b, c, d, hq1, hq5, eq, -⟩ := hI.mach k hk
    refine g_iload d_X7_waits_3 rfl ?_
    refine g_aload_n d_X7_waits_5 rfl ?_
    refine g_iconst d_X7_waits_6 ik_1 ?_
    refine mm_aldV (k := 1) (v := nI N) d_X7_waits_7 hA.1 hA.2.1 hA.2.2 rfl (by omega) (by decide) (hR.1.2.2.2.1.symm.trans hI.hN) ?_
    refine g_icmp_ge d_X7_waits_8 (fun c8 => absurd c8 (nI_ge (a := j) (b := N) (by omega) (by omega))) (fun c8 => ?_)
    refine g_aload_n d_X7_waits_11 rfl ?_
    refine h_getR d_X7_waits_12 fl_7_40 sp_M rfl ?_
    refine g_iload d_X7_waits_15 rfl ?_
    refine mm_aldV (k := j) (v := nI l) d_X7_waits_17 (j := 11) sp_m_rank rfl (by decide) rfl (by omega) (by decide) ((hR.2.2.2 j (by omega)).symm.trans el) ?_
    refine w_istore (L' := [_, _, _, _, _, _]) d_X7_waits_18 rfl rfl rfl ?_
    refine g_aload_n d_X7_waits_20 rfl ?_
    refine g_bipush d_X7_waits_21 bk_30 ?_
    refine g_iload d_X7_waits_23 rfl ?_
    refine g_iadd d_X7_waits_25 ?_
    refine mm_aldV (k := (30 + l)) (v := g 9 l) d_X7_waits_26 ha.1 ha.2.1 ha.2.2 (nAdd rfl rfl) (by omega) (by decide) ((hR.2.2.1 l hl).2.2.1.symm) ?_
    refine g_aload_n d_X7_waits_27 rfl ?_
    refine g_iconst d_X7_waits_28 ik_2 ?_
    refine g_iload_n d_X7_waits_29 rfl ?_
    refine g_iadd d_X7_waits_30 ?_
    refine mm_aldV (k := (2 + k)) (v := nI q) d_X7_waits_31 hA.1 hA.2.1 hA.2.2 (nAdd rfl rfl) (by omega) (by decide) ((hR.2.1 k hk).1.symm.trans eq) ?_
    refine h_S1i d_X7_waits_32 cl_7_152 m7_washes (Nat.le_of_ble_eq_true rfl) (by decide) ?_
    refine g_if_eq d_X7_waits_35 (fun c35 => ?_) (fun c35 => ?_)
    · have ew : wantS g k = 1 := by rw [wantS, eq]; exact if_neg (show ¬ nI q ≤ 3 from nI_ge (a := 3) (b := q) (by rcases Nat.lt_or_ge 3 q with z | z; exact z; exact absurd (nI_ge (a := q) (b := 4) (by omega) (by omega)) (b2i_eq0.mp c35)) (by omega))
      refine g_iconst d_X7_waits_42 ik_1 ?_
      refine g_icmp_ne d_X7_waits_43 (fun c43 => ?_) (fun c43 => ?_)
      · refine w_iinc (L' := [_, _, _, _, _, _]) d_X7_waits_65 ik_1 rfl rfl rfl rfl ?_
        refine g_goto d_X7_waits_68 ?_
        rw [nI_1]
        exact ih (j + 1) (by omega) _ (by rw [hr, ew, if_neg (by first | exact fun q => c43 q.1 | exact fun q => q.2 c59)])
      · refine g_aload_n d_X7_waits_46 rfl ?_
        refine g_bipush d_X7_waits_47 bk_18 ?_
        refine g_iload d_X7_waits_49 rfl ?_
        refine g_iadd d_X7_waits_51 ?_
        refine mm_aldV (k := (18 + l)) (v := g 7 l) d_X7_waits_52 ha.1 ha.2.1 ha.2.2 (nAdd rfl rfl) (by omega) (by decide) ((hR.2.2.1 l hl).1.symm) ?_
        refine g_aload_n d_X7_waits_53 rfl ?_
        refine g_bipush d_X7_waits_54 bk_7 ?_
        refine g_iload_n d_X7_waits_56 rfl ?_
        refine g_iadd d_X7_waits_57 ?_
        refine mm_aldV (k := (7 + k)) (v := g 2 k) d_X7_waits_58 hA.1 hA.2.1 hA.2.2 (nAdd rfl rfl) (by omega) (by decide) ((hR.2.1 k hk).2.1.symm) ?_
        refine g_icmp_gt d_X7_waits_59 (fun c59 => ?_) (fun c59 => ?_)
        · refine w_iinc (L' := [_, _, _, _, _, _]) d_X7_waits_65 ik_1 rfl rfl rfl rfl ?_
          refine g_goto d_X7_waits_68 ?_
          rw [nI_1]
          exact ih (j + 1) (by omega) _ (by rw [hr, ew, if_neg (by first | exact fun q => c43 q.1 | exact fun q => q.2 c59)])
        · refine g_iload d_X7_waits_62 rfl ?_
          refine h_iret d_X7_waits_64 rfl ?_
          exact pF (by rw [hr, ew, if_pos ⟨c43, c59⟩]; rfl) rfl
    · have ew : wantS g k = 0 := by rw [wantS, eq]; exact if_pos (show nI q ≤ 3 from nI_le (b := 3) (by rcases Nat.lt_or_ge 3 q with z | z; exact absurd (nI_le (a := 4) (b := q) (by omega) (by omega)) (b2i_ne0.mp c35); exact z) (by decide))
      refine g_iconst d_X7_waits_38 ik_0 ?_
      refine g_goto d_X7_waits_39 ?_
      refine g_icmp_ne d_X7_waits_43 (fun c43 => ?_) (fun c43 => ?_)
      · refine w_iinc (L' := [_, _, _, _, _, _]) d_X7_waits_65 ik_1 rfl rfl rfl rfl ?_
        refine g_goto d_X7_waits_68 ?_
        rw [nI_1]
        exact ih (j + 1) (by omega) _ (by rw [hr, ew, if_neg (by first | exact fun q => c43 q.1 | exact fun q => q.2 c59)])
      · refine g_aload_n d_X7_waits_46 rfl ?_
        refine g_bipush d_X7_waits_47 bk_18 ?_
        refine g_iload d_X7_waits_49 rfl ?_
        refine g_iadd d_X7_waits_51 ?_
        refine mm_aldV (k := (18 + l)) (v := g 7 l) d_X7_waits_52 ha.1 ha.2.1 ha.2.2 (nAdd rfl rfl) (by omega) (by decide) ((hR.2.2.1 l hl).1.symm) ?_
        refine g_aload_n d_X7_waits_53 rfl ?_
        refine g_bipush d_X7_waits_54 bk_7 ?_
        refine g_iload_n d_X7_waits_56 rfl ?_
        refine g_iadd d_X7_waits_57 ?_
        refine mm_aldV (k := (7 + k)) (v := g 2 k) d_X7_waits_58 hA.1 hA.2.1 hA.2.2 (nAdd rfl rfl) (by omega) (by decide) ((hR.2.1 k hk).2.1.symm) ?_
        refine g_icmp_gt d_X7_waits_59 (fun c59 => ?_) (fun c59 => ?_)
        · refine w_iinc (L' := [_, _, _, _, _, _]) d_X7_waits_65 ik_1 rfl rfl rfl rfl ?_
          refine g_goto d_X7_waits_68 ?_
          rw [nI_1]
          exact ih (j + 1) (by omega) _ (by rw [hr, ew, if_neg (by first | exact fun q => c43 q.1 | exact fun q => q.2 c59)])
        · refine g_iload d_X7_waits_62 rfl ?_
          refine h_iret d_X7_waits_64 rfl ?_
          exact pF (by rw [hr, ew, if_pos ⟨c43, c59⟩]; rfl) rfl
theorem m7_waits {h w g : Hv} {M N ja jb A a : Nat} (hA : AR A ja 17) (ha : AR a jb 42) (hJ : JJ ja jb) (hR : RepM M N g w ja jb) (hI : HI M N g) {k : Nat} (hk : k < M) {m : Int32} (em : m = nI k) : MtF M_X7_waits 1 [.ref 360, .ref A, .ref a, .int m] (mu h w) (some (.int (oI (waitF g (wantS g k) (g 2 k) N 0)))) (mu h w) := by
  subst em
  refine MtF.of [some (.ref 360), some (.ref A), some (.ref a), some (.int (nI k)), none, none] pl_X7 rfl rfl ?_
  refine g_iconst d_X7_waits_0 ik_0 ?_
  refine w_istore (L' := [_, _, _, _, _, _]) d_X7_waits_1 rfl rfl rfl ?_
  exact lp_waits hA ha hJ hR hI hk N 0 (by omega) _ rfl

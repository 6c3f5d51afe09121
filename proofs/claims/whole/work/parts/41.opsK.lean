/-! OPS: acts: what is kept ahead of each, power, shut, due, again -/
theorem HS.ext {M N : Nat} {g g' : Hv} {d s : Nat → Int32} (e : ∀ j b, j < 12 → g' j b = g j b) (h : HS M N g d s) : HS M N g' d s := by
  have e0 : ∀ b, g' 0 b = g 0 b := fun b => e 0 b (by decide)
  have e1 : ∀ b, g' 1 b = g 1 b := fun b => e 1 b (by decide)
  have e2 : ∀ b, g' 2 b = g 2 b := fun b => e 2 b (by decide)
  have e3 : ∀ b, g' 3 b = g 3 b := fun b => e 3 b (by decide)
  have e4 : ∀ b, g' 4 b = g 4 b := fun b => e 4 b (by decide)
  have e5 : ∀ b, g' 5 b = g 5 b := fun b => e 5 b (by decide)
  have e6 : ∀ b, g' 6 b = g 6 b := fun b => e 6 b (by decide)
  have e7 : ∀ b, g' 7 b = g 7 b := fun b => e 7 b (by decide)
  have e8 : ∀ b, g' 8 b = g 8 b := fun b => e 8 b (by decide)
  have e9 : ∀ b, g' 9 b = g 9 b := fun b => e 9 b (by decide)
  have e10 : ∀ b, g' 10 b = g 10 b := fun b => e 10 b (by decide)
  have e11 : ∀ b, g' 11 b = g 11 b := fun b => e 11 b (by decide)
  unfold HS HI Rp at *
  simp only [e0, e1, e2, e3, e4, e5, e6, e7, e8, e9, e10, e11]
  exact h
theorem HS.mv {M N : Nat} {g : Hv} {d s d' s' : Nat → Int32} (h : HS M N g d s) (hd : ∀ y, y < 17 → d' y = d y) (hs : ∀ y, y < 42 → s' y = s y) : HS M N g d' s' := by
  have hM5 := h.1.hM5
  have hN6 := h.1.hN6
  obtain ⟨h1, ⟨⟨a0, a1, a2, a3, a4⟩, hb, hc⟩, h3, h4, h5⟩ := h
  refine ⟨h1, ⟨⟨?_, ?_, ?_, ?_, ?_⟩, fun k hk => ?_, fun l hl => ?_⟩, h3, fun k h1 h2 => ?_, h5⟩
  · rw [hs _ (by decide)]; exact a0
  · rw [hs _ (by decide)]; exact a1
  · rw [hd _ (by decide)]; exact a2
  · rw [hd _ (by decide)]; exact a3
  · rw [hs _ (by decide)]; exact a4
  · rw [hd _ (by omega), hd _ (by omega), hd _ (by omega), hs _ (by omega), hs _ (by omega), hs _ (by omega)]; exact hb k hk
  · rw [hs _ (by omega), hs _ (by omega), hs _ (by omega), hs _ (by omega)]; exact hc l hl
  · rw [hs _ (by omega)]; exact h4 k h1 h2
/-- what the reference's notes do -/
def NTP (w w' : Hv) (c : Nat) : Prop := (∀ x y, x ≠ 12 → ¬ (x = 0 ∧ y = 23) → w' x y = w x y) ∧ w' 0 23 = nI (min c 23 + 1) ∧ (∀ y, y < 42 → w' 12 (42 * min c 23 + y) = w 8 y) ∧ ∀ j y, j < min c 23 → y < 42 → w' 12 (42 * j + y) = w 12 (42 * (j + (c - min c 23)) + y)
def nt1 (w : Hv) (j : Nat) : Hv := fun x y => if x = 12 ∧ y < j then w 12 (y + 42) else w x y
def nt2 (w : Hv) (c j : Nat) : Hv := fun x y => if x = 12 ∧ 42 * c ≤ y ∧ y < 42 * c + j then w 8 (y - 42 * c) else w x y
theorem nt1_s {w : Hv} {j : Nat} : hset (nt1 w j) 12 j (nt1 w j 12 (j + 42)) = nt1 w (j + 1) := by
  funext x y
  unfold hset nt1
  by_cases h1 : x = 12 ∧ y = j
  · rw [if_pos h1, if_neg (by omega), if_pos (by omega), h1.2]
  · rw [if_neg h1]
    by_cases h2 : x = 12 ∧ y < j
    · rw [if_pos h2, if_pos (by omega)]
    · rw [if_neg h2, if_neg (by omega)]
theorem nt2_s {w : Hv} {c j : Nat} : hset (nt2 w c j) 12 (42 * c + j) (nt2 w c j 8 j) = nt2 w c (j + 1) := by
  funext x y
  unfold hset nt2
  by_cases h1 : x = 12 ∧ y = 42 * c + j
  · rw [if_pos h1, if_neg (by omega), if_pos (by omega), h1.2, Nat.add_sub_cancel_left]
  · rw [if_neg h1]
    by_cases h2 : x = 12 ∧ 42 * c ≤ y ∧ y < 42 * c + j
    · rw [if_pos h2, if_pos (by omega)]
    · rw [if_neg h2, if_neg (by omega)]
theorem nt1_0 {w : Hv} : nt1 w 0 = w := by
  funext x y
  unfold nt1
  rw [if_neg (by omega)]
theorem nt2_0 {w : Hv} {c : Nat} : nt2 w c 0 = w := by
  funext x y
  unfold nt2
  rw [if_neg (by omega)]
theorem nt2_j {w : Hv} {c j x y : Nat} (h : x ≠ 12) : nt2 w c j x y = w x y := if_neg (fun z => h z.1)
theorem nt1_j {w : Hv} {j x y : Nat} (h : x ≠ 12) : nt1 w j x y = w x y := if_neg (fun z => h z.1)
theorem ntp_lt {w : Hv} {c : Nat} (hc : c < 24) : NTP w (hset (nt2 w c 42) 0 23 (nI (c + 1))) c := by
  have e : min c 23 = c := by omega
  unfold NTP
  rw [e]
  refine ⟨fun x y h1 h2 => ?_, hs_at, fun y hy => ?_, fun j y hj hy => ?_⟩
  · rw [hs_ne h2, nt2_j h1]
  · rw [hs_j (by decide), nt2, if_pos (by omega), Nat.add_sub_cancel_left]
  · rw [hs_j (by decide), nt2, if_neg (by omega), Nat.sub_self, Nat.add_zero]
theorem ntp_24 {w : Hv} : NTP w (hset (nt2 (hset (nt1 w 966) 0 23 23) 23 42) 0 23 24) 24 := by
  refine ⟨fun x y h1 h2 => ?_, hs_at, fun y hy => ?_, fun j y hj hy => ?_⟩
  · rw [hs_ne h2, nt2_j h1, hs_ne h2, nt1_j h1]
  · rw [show min 24 23 = 23 by decide, hs_j (by decide), nt2, if_pos (by omega), Nat.add_sub_cancel_left, hs_j (by decide), nt1_j (by decide)]
  · have e1 : min 24 23 = 23 := by decide
    rw [e1] at hj ⊢
    rw [hs_j (by decide), nt2, if_neg (by omega), hs_j (by decide), nt1, if_pos (by omega)]
    congr 1
    omega
theorem lp_notes1 {h w : Hv} {P : Option Value → Hv → Prop} (kx : GdH M_X7_notes 0 39 [some (.ref 360), some (.int (nI 966))] [] (mu h (nt1 w 966)) P) : ∀ (n j : Nat), j + n = 966 → GdH M_X7_notes 0 11 [some (.ref 360), some (.int (nI j))] [] (mu h (nt1 w j)) P := by
  intro n
  induction n with
  | zero =>
    intro j hj
    have hj' : j = 966 := by omega
    rw [hj']
    refine g_iload_n d_X7_notes_11 rfl ?_
    refine g_sipush d_X7_notes_12 sk_966 ?_
    refine g_icmp_ge d_X7_notes_15 (fun c15 => ?_) (fun c15 => absurd (nI_le (a := 966) (b := 966) (Nat.le_refl _) (by omega)) c15)
    exact kx
  | succ n ih =>
    intro j hj
    refine g_iload_n d_X7_notes_11 rfl ?_
    refine g_sipush d_X7_notes_12 sk_966 ?_
    refine g_icmp_ge d_X7_notes_15 (fun c15 => absurd c15 (nI_ge (a := j) (b := 966) (by omega) (by omega))) (fun c15 => ?_)
    refine g_aload_n d_X7_notes_18 rfl ?_
    refine h_getR d_X7_notes_19 fl_7_43 sp_M rfl ?_
    refine g_iload_n d_X7_notes_22 rfl ?_
    refine g_aload_n d_X7_notes_23 rfl ?_
    refine h_getR d_X7_notes_24 fl_7_43 sp_M rfl ?_
    refine g_iload_n d_X7_notes_27 rfl ?_
    refine g_bipush d_X7_notes_28 bk_42 ?_
    refine g_iadd d_X7_notes_30 ?_
    refine mm_aldE (k := (j + 42)) d_X7_notes_31 (j := 12) sp_m_undos rfl (by decide) (nAdd rfl rfl) (by omega) (by decide) ?_
    refine mm_astE (k := j) d_X7_notes_32 (j := 12) sp_m_undos rfl (by decide) rfl (by omega) (by decide) ?_
    refine w_iinc (L' := [_, _]) d_X7_notes_33 ik_1 rfl rfl rfl rfl ?_
    refine g_goto d_X7_notes_36 ?_
    have q := ih (j + 1) (by omega)
    rw [← nt1_s] at q
    rw [nI_1]
    exact q
theorem lp_notes2 {h w : Hv} {c : Nat} (hc : w 0 23 = nI c) (hc2 : c ≤ 23) {P : Option Value → Hv → Prop} (kx : GdH M_X7_notes 0 79 [some (.ref 360), some (.int (nI 42))] [] (mu h (nt2 w c 42)) P) : ∀ (n j : Nat), j + n = 42 → GdH M_X7_notes 0 47 [some (.ref 360), some (.int (nI j))] [] (mu h (nt2 w c j)) P := by
  intro n
  induction n with
  | zero =>
    intro j hj
    have hj' : j = 42 := by omega
    rw [hj']
    refine g_iload_n d_X7_notes_47 rfl ?_
    refine g_bipush d_X7_notes_48 bk_42 ?_
    refine g_icmp_ge d_X7_notes_50 (fun c50 => ?_) (fun c50 => absurd (nI_le (a := 42) (b := 42) (Nat.le_refl _) (by omega)) c50)
    exact kx
  | succ n ih =>
    intro j hj
    refine g_iload_n d_X7_notes_47 rfl ?_
    refine g_bipush d_X7_notes_48 bk_42 ?_
    refine g_icmp_ge d_X7_notes_50 (fun c50 => absurd c50 (nI_ge (a := j) (b := 42) (by omega) (by omega))) (fun c50 => ?_)
    refine g_aload_n d_X7_notes_53 rfl ?_
    refine h_getR d_X7_notes_54 fl_7_43 sp_M rfl ?_
    refine g_bipush d_X7_notes_57 bk_42 ?_
    refine g_aload_n d_X7_notes_59 rfl ?_
    refine mm_getV (v := nI c) d_X7_notes_60 fl_7_149 sp_M rfl ((nt2_j (by decide)).trans hc) ?_
    refine g_imul d_X7_notes_63 ?_
    refine g_iload_n d_X7_notes_64 rfl ?_
    refine g_iadd d_X7_notes_65 ?_
    refine g_aload_n d_X7_notes_66 rfl ?_
    refine h_getR d_X7_notes_67 fl_7_31 sp_M rfl ?_
    refine g_iload_n d_X7_notes_70 rfl ?_
    refine mm_aldE (k := j) d_X7_notes_71 (j := 8) sp_m_s rfl (by decide) rfl (by omega) (by decide) ?_
    refine mm_astE (k := ((42 * c) + j)) d_X7_notes_72 (j := 12) sp_m_undos rfl (by decide) (nAdd (nMul rfl rfl) rfl) (by omega) (by decide) ?_
    refine w_iinc (L' := [_, _]) d_X7_notes_73 ik_1 rfl rfl rfl rfl ?_
    refine g_goto d_X7_notes_76 ?_
    have q := ih (j + 1) (by omega)
    rw [← nt2_s] at q
    rw [nI_1]
    exact q
theorem m7_notesA {h w : Hv} {c : Nat} (hc : w 0 23 = nI c) (hc2 : c ≤ 23) : MtH M_X7_notes 0 [.ref 360] (mu h w) ((fun v' h' => v' = none ∧ ∃ w', h' = mu h w' ∧ NTP w w' c)) := by
  refine MtH.of [some (.ref 360), none] pl_X7 rfl rfl ?_
  refine g_aload_n d_X7_notes_0 rfl ?_
  refine mm_getV (v := nI c) d_X7_notes_1 fl_7_149 sp_M rfl (hc) ?_
  refine g_bipush d_X7_notes_4 bk_24 ?_
  refine g_icmp_ne d_X7_notes_6 (fun c6 => ?_) (fun c6 => absurd c6 (fun z => by have := nI_inj (a := c) (b := 24) z (by omega) (by decide); omega))
  refine g_iconst d_X7_notes_45 ik_0 ?_
  refine w_istore_n (L' := [_, _]) d_X7_notes_46 rfl rfl rfl ?_
  rw [show mu h w = mu h (nt2 w c 0) by rw [nt2_0]]
  refine lp_notes2 hc hc2 ?_ 42 0 rfl
  refine g_aload_n d_X7_notes_79 rfl ?_
  refine g_dup d_X7_notes_80 rfl ?_
  refine mm_getV (v := nI c) d_X7_notes_81 fl_7_149 sp_M rfl ((nt2_j (by decide)).trans hc) ?_
  refine g_iconst d_X7_notes_84 ik_1 ?_
  refine g_iadd d_X7_notes_85 ?_
  refine mm_putI d_X7_notes_86 fl_7_149 sp_M rfl ?_
  refine h_vret d_X7_notes_89 rfl ?_
  rw [nI_1]
  exact ⟨rfl, _, rfl, ntp_lt (by omega)⟩
theorem m7_notesB {h w : Hv} {c : Nat} (hc : w 0 23 = nI c) (hc2 : c = 24) : MtH M_X7_notes 0 [.ref 360] (mu h w) ((fun v' h' => v' = none ∧ ∃ w', h' = mu h w' ∧ NTP w w' c)) := by
  subst hc2
  refine MtH.of [some (.ref 360), none] pl_X7 rfl rfl ?_
  refine g_aload_n d_X7_notes_0 rfl ?_
  refine mm_getV (v := nI 24) d_X7_notes_1 fl_7_149 sp_M rfl (hc) ?_
  refine g_bipush d_X7_notes_4 bk_24 ?_
  refine g_icmp_ne d_X7_notes_6 (fun c6 => absurd c6 (fun z => z rfl)) (fun c6 => ?_)
  refine g_iconst d_X7_notes_9 ik_0 ?_
  refine w_istore_n (L' := [_, _]) d_X7_notes_10 rfl rfl rfl ?_
  rw [show mu h w = mu h (nt1 w 0) by rw [nt1_0]]
  refine lp_notes1 ?_ 966 0 rfl
  refine g_aload_n d_X7_notes_39 rfl ?_
  refine g_bipush d_X7_notes_40 bk_23 ?_
  refine mm_putI d_X7_notes_42 fl_7_149 sp_M rfl ?_
  refine g_iconst d_X7_notes_45 ik_0 ?_
  refine w_istore_n (L' := [_, _]) d_X7_notes_46 rfl rfl rfl ?_
  rw [show mu h (hset (nt1 w 966) 0 23 23) = mu h (nt2 (hset (nt1 w 966) 0 23 23) 23 0) by rw [nt2_0]]
  refine lp_notes2 (c := 23) hs_at (by decide) ?_ 42 0 rfl
  refine g_aload_n d_X7_notes_79 rfl ?_
  refine g_dup d_X7_notes_80 rfl ?_
  refine mm_getV (v := 23) d_X7_notes_81 fl_7_149 sp_M rfl ((nt2_j (by decide)).trans hs_at) ?_
  refine g_iconst d_X7_notes_84 ik_1 ?_
  refine g_iadd d_X7_notes_85 ?_
  refine mm_putI d_X7_notes_86 fl_7_149 sp_M rfl ?_
  refine h_vret d_X7_notes_89 rfl ?_
  exact ⟨rfl, _, rfl, ntp_24⟩
theorem m7_notes {h w : Hv} {c : Nat} (hc : w 0 23 = nI c) (hc2 : c ≤ 24) : MtH M_X7_notes 0 [.ref 360] (mu h w) (fun v' h' => v' = none ∧ ∃ w', h' = mu h w' ∧ NTP w w' c) := by
  by_cases z : c = 24
  · exact m7_notesB hc z
  · exact m7_notesA hc (by omega)
def begH (h : Hv) (i c : Nat) : Hv := hset (keepH h i c) 330 3 0
theorem pu_out {h g : Hv} {o a b : Nat} (ha : a < o ∨ o + 12 ≤ a) : pu h o g a b = h a b := blk_out ha
theorem keepH_out {h : Hv} {i c x y : Nat} (h1 : ¬ (39 ≤ x ∧ x ≤ 328)) : keepH h i c x y = h x y := by
  have := Nat.mod_lt (i + 1) (show 0 < 24 by decide)
  unfold keepH
  rw [hs_j (by omega), pu_out (by omega), hs_j (by omega)]
theorem begH_out {h : Hv} {i c x y : Nat} (h1 : ¬ (39 ≤ x ∧ x ≤ 328)) (h2 : ¬ (x = 330 ∧ y = 3)) : begH h i c x y = h x y := (hs_ne h2).trans (keepH_out h1)
theorem keep_mu {h w : Hv} {i c : Nat} : keepH (mu h w) i c = mu (keepH h i c) w := by
  have := Nat.mod_lt (i + 1) (show 0 < 24 by decide)
  unfold keepH
  rw [mu_hset (by decide), mu_pu (by omega), mu_hset (by decide), pu_ext (g := vw (mu h w) 15) (g' := vw h 15) (fun j b hj => mu_low (by omega))]
theorem beg_mu {h w : Hv} {i c : Nat} : begH (mu h w) i c = mu (begH h i c) w := by
  unfold begH
  rw [keep_mu, mu_hset (by decide)]
theorem RActs.note {M N i c : Nat} {h w h' w' : Hv} (hi : i < 24) (hA : RActs M N h w i c) (hS : HS M N (hv h 15) (w 7) (w 8)) (nt : NTP w w' c) (eh : ∀ x y, 39 ≤ x → x ≤ 328 → h' x y = keepH h i c x y) : RActs M N h' w' ((i + 1) % 24) (min c 23 + 1) := by
  obtain ⟨a1, a2, a3, a4⟩ := hA
  obtain ⟨n1, n2, n3, n4⟩ := nt
  have hm := Nat.mod_lt (i + 1) (show 0 < 24 by decide)
  have e7 : w' 7 = w 7 := funext (fun y => n1 7 y (by decide) (by omega))
  refine ⟨?_, n2, by omega, fun j hj => ?_⟩
  · rw [eh 39 1 (by decide) (by decide)]
    unfold keepH
    rw [hs_at]
    congr 1
    split <;> omega
  · rw [e7]
    by_cases hz : j = 0
    · subst hz
      have e : ((i + 1) % 24 + 24 - 0) % 24 = (i + 1) % 24 := by omega
      rw [e]
      refine HS.ext (g := hv h 15) (fun q b hq => ?_) (hS.mv (fun _ _ => rfl) (fun y hy => ?_))
      · rw [hv_at hq, hv_at hq, eh _ _ (by omega) (by omega)]
        unfold keepH
        rw [hs_j (by omega), pu_at hq]
        rfl
      · rw [← n3 y hy]
        congr 1
    · have e : ((i + 1) % 24 + 24 - j) % 24 = (i + 24 - (j - 1)) % 24 := by omega
      have hne : (i + 24 - (j - 1)) % 24 ≠ (i + 1) % 24 := by omega
      have hlt := Nat.mod_lt (i + 24 - (j - 1)) (show 0 < 24 by decide)
      rw [e]
      refine HS.ext (g := hv h (41 + 12 * ((i + 24 - (j - 1)) % 24))) (fun q b hq => ?_) ((a4 (j - 1) (by omega)).mv (fun _ _ => rfl) (fun y hy => ?_))
      · rw [hv_at hq, hv_at hq, eh _ _ (by omega) (by omega)]
        unfold keepH
        rw [hs_j (by omega), pu_out (by omega), hs_j (by omega)]
      · have q := n4 (min c 23 - j) y (by omega) hy
        have e1 : min c 23 + 1 - 1 - j = min c 23 - j := by omega
        have e2 : min c 23 - j + (c - min c 23) = c - 1 - (j - 1) := by omega
        rw [e1, q, e2]
/-- an act: the hall, its rows d and s are new, the rest as beginAct and notes leave it -/
theorem RelP.act {h w h' w1 w' : Hv} {M N i c : Nat} (hR : RelP h w) (hi : i < 24) (hA : RActs M N h w i c) (hS : HS M N (hv h 15) (w 7) (w 8)) (nt : NTP w w1 c) (eh : ∀ x y, ¬ (15 ≤ x ∧ x ≤ 26) → x < 360 → h' x y = begH h i c x y) (ew : ∀ x y, x ≠ 8 → ¬ (x = 0 ∧ y = 21) → w' x y = w1 x y) (hS' : HS M N (hv h' 15) (w 7) (w' 8)) : RelP h' w' := by
  have hm := Nat.mod_lt (i + 1) (show 0 < 24 by decide)
  have fr : ∀ x, x ≠ 8 → x ≠ 12 → x ≠ 0 → w' x = w x := fun x h1 h2 h3 => funext (fun y => (ew x y h1 (fun q => h3 q.1)).trans (nt.1 x y h2 (fun q => h3 q.1)))
  have f0 : ∀ y, y ≠ 23 → y ≠ 21 → w' 0 y = w 0 y := fun y hy hz => (ew 0 y (by decide) (fun q => hz q.2)).trans (nt.1 0 y (by decide) (fun q => hy q.2))
  have oh : ∀ x y, ¬ (15 ≤ x ∧ x ≤ 26) → ¬ (39 ≤ x ∧ x ≤ 328) → ¬ (x = 330 ∧ y = 3) → x < 360 → h' x y = h x y := fun x y h1 h2 h3 h4 => (eh x y h1 h4).trans (begH_out h2 h3)
  refine ⟨?_, ?_, ?_, ⟨(i + 1) % 24, hm, ?_, Or.inr ⟨M, N, min c 23 + 1, ?_, ?_, ?_⟩⟩, ?_, ?_⟩
  · unfold RStat
    rw [oh _ _ (by omega) (by omega) (by omega) (by omega), f0 _ (by decide) (by decide)]
    exact hR.1
  · exact hR.2.1.cg (fun x y h1 h2 => oh _ _ (by omega) (by omega) (by omega) (by omega)) (fr _ (by decide) (by decide) (by decide)) (fr _ (by decide) (by decide) (by decide)) (fr _ (by decide) (by decide) (by decide))
  · exact hR.2.2.1.cg (fun x y q => oh _ _ (by omega) (by omega) (by omega) (by omega)) (f0 _ (by decide) (by decide)) (f0 _ (by decide) (by decide)) (fr _ (by decide) (by decide) (by decide))
  · rw [eh _ _ (by omega) (by omega), begH, hs_j (by decide), keepH, hs_b (by decide), pu_out (by omega), hs_at]
  · rw [fr 7 (by decide) (by decide) (by decide)]
    exact hS'
  · have q := RActs.note (h' := h') (w' := w1) hi hA hS nt (fun x y h1 h2 => (eh x y (by omega) (by omega)).trans (hs_j (by omega)))
    unfold RActs at *
    rw [show w' 7 = w1 7 from funext (fun y => ew 7 y (by decide) (by omega)), show w' 12 = w1 12 from funext (fun y => ew 12 y (by decide) (by omega)), ew 0 23 (by decide) (by decide)]
    exact q
  · refine Or.inl ?_
    rw [eh _ _ (by omega) (by omega), begH, hs_at]
  · exact hR.2.2.2.2.1.cg (fun x y h1 h2 => oh _ _ (by omega) (by omega) (by omega) (by omega)) (fr _ (by decide) (by decide) (by decide)) (fr _ (by decide) (by decide) (by decide))
  · exact hR.2.2.2.2.2.cg (fun x y q => oh _ _ (by omega) (by omega) (by omega) (by omega)) (f0 _ (by decide) (by decide)) (fr _ (by decide) (by decide) (by decide))
theorem m_forget {h : Hv} : MtF M_X3_forget 0 [.ref 330] (h) (none) (hset h 330 3 0) := by
  refine MtF.of [some (.ref 330)] pl_X3 rfl rfl ?_
  refine g_aload_n d_X3_forget_0 rfl ?_
  refine g_iconst d_X3_forget_1 ik_0 ?_
  refine h_putI d_X3_forget_2 fl_3_18 sp_Orders rfl ?_
  refine h_vret d_X3_forget_5 rfl ?_
  exact ⟨rfl, rfl⟩
theorem m6_beginAct {h : Hv} {i c : Nat} (hi : h 39 2 = nI i) (hi2 : i < 24) (hc : h 39 1 = nI c) (hc2 : c ≤ 24) : MtF M_X6_beginAct 3 [.ref 0] (h) (none) (begH h i c) := by
  refine MtF.of [some (.ref 0)] pl_X6 rfl rfl ?_
  refine g_aload_n d_X6_beginAct_0 rfl ?_
  refine h_getR d_X6_beginAct_1 fl_6_36 sp_L rfl ?_
  refine g_aload_n d_X6_beginAct_4 rfl ?_
  refine h_getR d_X6_beginAct_5 fl_6_26 sp_L rfl ?_
  refine h_V1v d_X6_beginAct_8 cl_6_148 (m_keep hi hi2 hc hc2) sp_Acts (by decide) rfl (Nat.le_of_ble_eq_true rfl) (by decide) ?_
  refine g_aload_n d_X6_beginAct_11 rfl ?_
  refine h_getR d_X6_beginAct_12 fl_6_47 sp_L rfl ?_
  refine h_V0v d_X6_beginAct_15 cl_6_145 m_forget sp_Orders (by decide) rfl (Nat.le_of_ble_eq_true rfl) (by decide) ?_
  refine h_vret d_X6_beginAct_18 rfl ?_
  exact ⟨rfl, rfl⟩
theorem p_beginAct {h w : Hv} {i c : Nat} (hi : h 39 2 = nI i) (hi2 : i < 24) (hc : h 39 1 = nI c) (hc2 : c ≤ 24) : MtF M_X6_beginAct 3 [.ref 0] (pu (mu h w) 15 (hv h 15)) none (pu (mu (begH h i c) w) 15 (hv h 15)) := by
  have q := m6_beginAct (h := mu h w) ((mu_low (by decide)).trans hi) hi2 ((mu_low (by decide)).trans hc) hc2
  rw [beg_mu, mu_15 (h := begH h i c), hv_eq (h := h) (h' := begH h i c) (fun j b hj => begH_out (by omega) (by omega)), mu_15] at q
  exact q
theorem HS.th {M N : Nat} {g w : Hv} {v : Int32} (h : HS M N g (w 7) (w 8)) : HS M N g (hset w 0 0 v 7) (hset w 0 0 v 8) := h.mv (fun y _ => hs_j (by decide)) (fun y _ => hs_j (by decide))
theorem RActs.th {M N i c : Nat} {h w : Hv} {v : Int32} (hA : RActs M N h w i c) : RActs M N h (hset w 0 0 v) i c := by
  unfold RActs at *
  rw [show hset w 0 0 v 7 = w 7 from funext (fun y => hs_j (by decide)), show hset w 0 0 v 12 = w 12 from funext (fun y => hs_j (by decide)), hs_b (by decide)]
  exact hA
/-- what the ops that are acts end with -/
theorem act_end {h w w1 w' g : Hv} {M N i c : Nat} {v : Int32} (hR : RelP h w) (hi : i < 24) (hA : RActs M N h w i c) (hS : HS M N (hv h 15) (w 7) (w 8)) (nt : NTP (hset w 0 0 v) w1 c) (ew : ∀ x y, x ≠ 8 → w' x y = w1 x y) (hS' : HS M N g (w1 7) (w' 8)) : Rel (mu (pu (begH h i c) 15 g) w') := by
  refine ⟨_, _, rfl, RelP.act (hR.fr fr_thrown) hi hA.th hS.th nt (fun x y h1 h2 => blk_out (by omega)) (fun x y h1 _ => ew x y h1) ?_⟩
  rw [show hset w 0 0 v 7 = w1 7 from funext (fun y => (nt.1 7 y (by decide) (by omega)).symm)]
  exact hS'.ext (fun j b hj => hv_pu hj)
theorem NTP.r0 {w w1 : Hv} {c x y : Nat} {v : Int32} (nt : NTP (hset w 0 0 v) w1 c) (h1 : x ≠ 12) (h2 : x ≠ 0) : w1 x y = w x y := (nt.1 x y h1 (fun q => h2 q.1)).trans (hs_j h2)
theorem rp_00 {M N : Nat} {g w : Hv} (hR : Rp M N g (w 7) (w 8)) (hM5 : M ≤ 5) (hN6 : N ≤ 6) {v : Int32} : Rp M N (hset g 0 0 v) (w 7) ((hset w 8 1 v) 8) := by
  obtain ⟨⟨a0, a1, a2, a3, a4⟩, hb, hc⟩ := hR
  refine ⟨⟨?_, ?_, ?_, ?_, ?_⟩, fun k' hk' => ?_, fun l' hl' => ?_⟩
  · unfold hset; repeat' split
    all_goals first | assumption | rfl | omega
  · unfold hset; repeat' split
    all_goals first | assumption | rfl | omega
  · unfold hset; repeat' split
    all_goals first | assumption | rfl | omega
  · unfold hset; repeat' split
    all_goals first | assumption | rfl | omega
  · unfold hset; repeat' split
    all_goals first | assumption | rfl | omega
  · obtain ⟨b1, b2, b3, b4, b5, b6⟩ := hb k' hk'
    unfold hset
    refine ⟨?_, ?_, ?_, ?_, ?_, ?_⟩
    all_goals repeat' split
    all_goals first | assumption | rfl | omega
  · obtain ⟨c1, c2, c3, c4⟩ := hc l' hl'
    unfold hset
    refine ⟨?_, ?_, ?_, ?_⟩
    all_goals repeat' split
    all_goals first | assumption | rfl | omega | (intro e9; first | rfl | exact absurd e9 h9 | exact absurd e9 (by decide) | exact c4 e9 | omega)
theorem rp_04 {M N : Nat} {g w : Hv} (hR : Rp M N g (w 7) (w 8)) (hM5 : M ≤ 5) (hN6 : N ≤ 6) {v : Int32} : Rp M N (hset g 0 4 v) (w 7) ((hset w 8 2 v) 8) := by
  obtain ⟨⟨a0, a1, a2, a3, a4⟩, hb, hc⟩ := hR
  refine ⟨⟨?_, ?_, ?_, ?_, ?_⟩, fun k' hk' => ?_, fun l' hl' => ?_⟩
  · unfold hset; repeat' split
    all_goals first | assumption | rfl | omega
  · unfold hset; repeat' split
    all_goals first | assumption | rfl | omega
  · unfold hset; repeat' split
    all_goals first | assumption | rfl | omega
  · unfold hset; repeat' split
    all_goals first | assumption | rfl | omega
  · unfold hset; repeat' split
    all_goals first | assumption | rfl | omega
  · obtain ⟨b1, b2, b3, b4, b5, b6⟩ := hb k' hk'
    unfold hset
    refine ⟨?_, ?_, ?_, ?_, ?_, ?_⟩
    all_goals repeat' split
    all_goals first | assumption | rfl | omega
  · obtain ⟨c1, c2, c3, c4⟩ := hc l' hl'
    unfold hset
    refine ⟨?_, ?_, ?_, ?_⟩
    all_goals repeat' split
    all_goals first | assumption | rfl | omega | (intro e9; first | rfl | exact absurd e9 h9 | exact absurd e9 (by decide) | exact c4 e9 | omega)
theorem rp_8 {M N : Nat} {g w : Hv} (hR : Rp M N g (w 7) (w 8)) (hM5 : M ≤ 5) (hN6 : N ≤ 6) {l : Nat} (hl : l < N) {v : Int32} : Rp M N (hset g 8 l v) (w 7) ((hset w 8 (24 + l) v) 8) := by
  obtain ⟨⟨a0, a1, a2, a3, a4⟩, hb, hc⟩ := hR
  refine ⟨⟨?_, ?_, ?_, ?_, ?_⟩, fun k' hk' => ?_, fun l' hl' => ?_⟩
  · unfold hset; repeat' split
    all_goals first | assumption | rfl | omega
  · unfold hset; repeat' split
    all_goals first | assumption | rfl | omega
  · unfold hset; repeat' split
    all_goals first | assumption | rfl | omega
  · unfold hset; repeat' split
    all_goals first | assumption | rfl | omega
  · unfold hset; repeat' split
    all_goals first | assumption | rfl | omega
  · obtain ⟨b1, b2, b3, b4, b5, b6⟩ := hb k' hk'
    unfold hset
    refine ⟨?_, ?_, ?_, ?_, ?_, ?_⟩
    all_goals repeat' split
    all_goals first | assumption | rfl | omega
  · obtain ⟨c1, c2, c3, c4⟩ := hc l' hl'
    unfold hset
    refine ⟨?_, ?_, ?_, ?_⟩
    all_goals repeat' split
    all_goals first | assumption | rfl | omega | (intro e9; first | rfl | exact absurd e9 h9 | exact absurd e9 (by decide) | exact c4 e9 | omega)
theorem rp_ag {M N : Nat} {g w : Hv} (hR : Rp M N g (w 7) (w 8)) (hM5 : M ≤ 5) (hN6 : N ≤ 6) {l : Nat} (hl : l < N) {v : Int32} : Rp M N (dirtS g l v) (w 7) ((hset (hset (hset w 8 (30 + l) 0) 8 (18 + l) v) 8 (36 + l) 0) 8) := by
  obtain ⟨⟨a0, a1, a2, a3, a4⟩, hb, hc⟩ := hR
  unfold dirtS
  refine ⟨⟨?_, ?_, ?_, ?_, ?_⟩, fun k' hk' => ?_, fun l' hl' => ?_⟩
  · unfold hset; repeat' split
    all_goals first | assumption | rfl | omega
  · unfold hset; repeat' split
    all_goals first | assumption | rfl | omega
  · unfold hset; repeat' split
    all_goals first | assumption | rfl | omega
  · unfold hset; repeat' split
    all_goals first | assumption | rfl | omega
  · unfold hset; repeat' split
    all_goals first | assumption | rfl | omega
  · obtain ⟨b1, b2, b3, b4, b5, b6⟩ := hb k' hk'
    unfold hset
    refine ⟨?_, ?_, ?_, ?_, ?_, ?_⟩
    all_goals repeat' split
    all_goals first | assumption | rfl | omega
  · obtain ⟨c1, c2, c3, c4⟩ := hc l' hl'
    unfold hset
    refine ⟨?_, ?_, ?_, ?_⟩
    all_goals repeat' split
    all_goals first | assumption | rfl | omega | (intro e9; first | rfl | exact absurd e9 h9 | exact absurd e9 (by decide) | exact c4 e9 | omega)
theorem HS.power {M N v : Nat} {g w : Hv} (h : HS M N g (w 7) (w 8)) (h1 : 1 ≤ v) (h2 : v ≤ 5) : HS M N (hset g 0 0 (nI v)) (w 7) (hset w 8 1 (nI v) 8) :=
  ⟨h.1.power h1 h2, rp_00 h.2.1 h.1.hM5 h.1.hN6, h.2.2.1, fun k a b => (hs_b (by omega)).trans (h.2.2.2.1 k a b), h.2.2.2.2⟩
theorem trn : ∀ M, M ≤ 5 → ∀ b, b < 2 ^ M → ∀ k, k < M → (nI b ^^^ (1 <<< (nI k &&& 31))) = nI (b ^^^ 2 ^ k) ∧ b ^^^ 2 ^ k < 2 ^ M := by decide +kernel
theorem HS.turn {M N k : Nat} {g w : Hv} (h : HS M N g (w 7) (w 8)) (hk : k < M) : HS M N (hset g 0 4 (g 0 4 ^^^ 1 <<< (nI k &&& 31))) (w 7) (hset w 8 2 (g 0 4 ^^^ 1 <<< (nI k &&& 31)) 8) := by
  obtain ⟨b, hb, eb⟩ := h.1.opn
  obtain ⟨t1, t2⟩ := trn M h.1.hM5 b hb k hk
  refine ⟨?_, rp_04 h.2.1 h.1.hM5 h.1.hN6, h.2.2.1, fun k a b => (hs_b (by omega)).trans (h.2.2.2.1 k a b), h.2.2.2.2⟩
  rw [eb, t1]
  exact h.1.openb t2
theorem HI.due {M N l v : Nat} {g : Hv} (h : HI M N g) (hv : v ≤ 99) : HI M N (hset g 8 l (nI v)) := by
  refine ⟨h.1, h.2.1, h.2.2.1, h.2.2.2.1, h.2.2.2.2.1, fun q hq => ?_, h.2.2.2.2.2.2.1, h.2.2.2.2.2.2.2⟩
  obtain ⟨a, b, a1, a2, a3, b1, b2⟩ := h.load q hq
  by_cases e : q = l
  · subst e
    exact ⟨a, v, a1, a2, (hs_j (by decide)).trans a3, hv, hs_at⟩
  · exact ⟨a, b, a1, a2, (hs_j (by decide)).trans a3, b1, (hs_b e).trans b2⟩
theorem HS.due {M N l v : Nat} {g w : Hv} (h : HS M N g (w 7) (w 8)) (hl : l < N) (hv : v ≤ 99) : HS M N (hset g 8 l (nI v)) (w 7) (hset w 8 (24 + l) (nI v) 8) :=
  ⟨h.1.due hv, rp_8 h.2.1 h.1.hM5 h.1.hN6 hl, h.2.2.1, fun k a b => (hs_b (by omega)).trans (h.2.2.2.1 k a b), h.2.2.2.2⟩
theorem HI.dirt {M N l v : Nat} {g : Hv} (h : HI M N g) (hd : g 9 l = 2) (h1 : 1 ≤ v) (h2 : v ≤ 9) : HI M N (dirtS g l (nI v)) := by
  unfold dirtS
  have hM5 := h.hM5
  refine ⟨h.1, h.2.1, fun k hk => ?_, fun q hq => ?_, h.2.2.2.2.1, fun q hq => ?_, h.2.2.2.2.2.2.1, h.2.2.2.2.2.2.2⟩
  · rcases h.hold k hk with z | ⟨l', t, z1, z2, z3, z4, z5, z6⟩
    · exact Or.inl z
    · have hne : l' ≠ l := fun e => by
        rw [e, hd] at z6
        have := nI_inj (a := 2) (b := 10 + k) z6 (by decide) (by omega)
        omega
      exact Or.inr ⟨l', t, z1, z2, z3, z4, z5, by rw [hs_j (by decide), hs_b hne]; exact (hs_j (by decide)).trans z6⟩
  · by_cases e : q = l
    · subst e
      exact Or.inl (by rw [hs_j (by decide), hs_at])
    · rw [hs_j (by decide), hs_b e, hs_j (by decide)]
      exact h.how q hq
  · obtain ⟨a, b, a1, a2, a3, b1, b2⟩ := h.load q hq
    by_cases e : q = l
    · subst e
      exact ⟨v, b, h1, h2, by rw [hs_j (by decide), hs_j (by decide), hs_at], b1, b2⟩
    · exact ⟨a, b, a1, a2, by rw [hs_j (by decide), hs_j (by decide), hs_b e]; exact a3, b1, b2⟩
theorem HS.again {M N l v : Nat} {g w : Hv} (h : HS M N g (w 7) (w 8)) (hl : l < N) (hd : g 9 l = 2) (h1 : 1 ≤ v) (h2 : v ≤ 9) : HS M N (dirtS g l (nI v)) (w 7) (hset (hset (hset w 8 (30 + l) 0) 8 (18 + l) (nI v)) 8 (36 + l) 0 8) := by
  obtain ⟨t, t1, t2, t3⟩ := h.2.2.2.2
  refine ⟨h.1.dirt hd h1 h2, rp_ag h.2.1 h.1.hM5 h.1.hN6 hl, h.2.2.1, fun k a b => ?_, t, t1, t2, fun q hq e9 => ?_⟩
  · rw [hs_b (by omega), hs_b (by omega), hs_b (by omega)]
    exact h.2.2.2.1 k a b
  · unfold dirtS at e9 ⊢
    by_cases e : q = l
    · subst e
      rw [hs_j (by decide), hs_at] at e9
      exact absurd e9 (by decide)
    · rw [hs_j (by decide), hs_b e, hs_j (by decide)] at e9
      rw [hs_b e]
      exact t3 q hq e9
theorem HS.w8 {M N : Nat} {g : Hv} {d s s' : Nat → Int32} (h : HS M N g d s) (e : s' = s) : HS M N g d s' := e ▸ h
theorem op_power {h w : Hv} (hR : RelP h w) {x : Int32} : OPI M_X6_power M_X7_power 4 3 [.int x] (mu h w) := by
  obtain ⟨M, N, hM5, hN6, gM, wM, gN, wN, hZ⟩ := hR.mn
  have eM : (nI M).toInt = M := nI_toInt (by omega)
  have eN : (nI N).toInt = N := nI_toInt (by omega)
  have eM1 := nI_predI (t := M) (by omega)
  have eN1 := nI_predI (t := N) (by omega)
  rw [mu_15]
  refine MtH.of [some (.ref 0), some (.int x), none] pl_X6 rfl rfl ?_
  refine g_aload_n d_X6_power_0 rfl ?_
  refine h_getR d_X6_power_1 fl_6_26 sp_L rfl ?_
  refine h_V0i d_X6_power_4 cl_6_154 (m_isNone hall_15) (sp_hall hall_15) (by decide) rfl (Nat.le_of_ble_eq_true rfl) (by decide) ?_
  refine g_if_eq d_X6_power_7 (fun c7 => ?_) (fun c7 => ?_)
  · have hM0 : ¬ nI M = 0 := fun z => b2i_eq0.mp c7 (gM.trans z)
    obtain ⟨i0, c0, hi0, hi1, hS, hA, hO⟩ := (hZ.resolve_left (fun z => hM0 (by rw [z.1]; rfl))).2.2
    have hI := hS.1
    refine g_iload_n d_X6_power_13 rfl ?_
    refine g_iconst d_X6_power_14 ik_1 ?_
    refine g_icmp_lt d_X6_power_15 (fun c15 => ?_) (fun c15 => ?_)
    · refine g_ldc d_X6_power_23 kc_X6_66 ?_
      refine h_iret d_X6_power_25 rfl ?_
      refine ⟨_, rfl, ?_⟩
      rw [← mu_15]
      refine MtH.of [some (.ref 360), some (.int x), none] pl_X7 rfl rfl ?_
      refine g_aload_n d_X7_power_0 rfl ?_
      refine g_iconst d_X7_power_1 ik_0 ?_
      refine mm_putI d_X7_power_2 fl_7_62 sp_M rfl ?_
      refine g_aload_n d_X7_power_5 rfl ?_
      refine h_V0i d_X7_power_6 cl_7_195 (m7_isNothing ((hs_j (by decide)).trans wM)) sp_M (by decide) rfl (Nat.le_of_ble_eq_true rfl) (by decide) ?_
      refine g_if_eq d_X7_power_9 (fun c9 => ?_) (fun c9 => ?_)
      · refine g_iload_n d_X7_power_15 rfl ?_
        refine g_iconst d_X7_power_16 ik_1 ?_
        refine g_iconst d_X7_power_17 ik_5 ?_
        refine h_S3i d_X7_power_18 cl_7_70 m7_in (Nat.le_of_ble_eq_true rfl) (by decide) ?_
        refine g_if_ne d_X7_power_21 (fun c21 => ?_) (fun c21 => ?_)
        · exfalso
          simp only [b2i_eq0, b2i_ne0, Int32.lt_iff_toInt_lt, Int32.le_iff_toInt_le, t_0, t_1, t_2, t_3, t_4, t_5, t_6, t_7, t_8, t_9, t_10, t_11, t_12, t_20, t_24, t_40, t_50, t_60, t_99, t_110, t_255, t_999, t_999999, t_m1, gM, gN, eM, eN, eM1, eN1] at *
          omega
        · refine g_ldc d_X7_power_24 kc_X7_78 ?_
          refine h_iret d_X7_power_26 rfl ?_
          exact ⟨rfl, _, _, rfl, hR.fr fr_thrown⟩
      · exact absurd (b2i_ne0.mp c9) hM0
    · refine g_iload_n d_X6_power_18 rfl ?_
      refine g_iconst d_X6_power_19 ik_5 ?_
      refine g_icmp_le d_X6_power_20 (fun c20 => ?_) (fun c20 => ?_)
      · obtain ⟨u, hu, rfl⟩ := rngI (x := x) (B := 6) (by simp only [b2i_eq0, b2i_ne0, Int32.lt_iff_toInt_lt, Int32.le_iff_toInt_le, t_0, t_1, t_2, t_3, t_4, t_5, t_6, t_7, t_8, t_9, t_10, t_11, t_12, t_20, t_24, t_40, t_50, t_60, t_99, t_110, t_255, t_999, t_999999, t_m1, gM, gN, eM, eN, eM1, eN1] at *; omega) (by simp only [b2i_eq0, b2i_ne0, Int32.lt_iff_toInt_lt, Int32.le_iff_toInt_le, t_0, t_1, t_2, t_3, t_4, t_5, t_6, t_7, t_8, t_9, t_10, t_11, t_12, t_20, t_24, t_40, t_50, t_60, t_99, t_110, t_255, t_999, t_999999, t_m1, gM, gN, eM, eN, eM1, eN1] at *; omega)
        have eu : (nI u).toInt = u := nI_toInt (by omega)
        refine g_aload_n d_X6_power_26 rfl ?_
        refine h_V0v d_X6_power_27 cl_6_161 (p_beginAct hi1 hi0 hA.1 hA.2.2.1) sp_L (by decide) rfl (Nat.le_of_ble_eq_true rfl) (by decide) ?_
        refine g_aload_n d_X6_power_30 rfl ?_
        refine h_getR d_X6_power_31 fl_6_26 sp_L rfl ?_
        refine hh_getI d_X6_power_34 fl_6_180 hall_15 (by decide) ?_
        refine w_istore_n (L' := [_, _, _]) d_X6_power_37 rfl rfl rfl ?_
        refine g_aload_n d_X6_power_38 rfl ?_
        refine h_getR d_X6_power_39 fl_6_26 sp_L rfl ?_
        refine g_iload_n d_X6_power_42 rfl ?_
        refine hh_putI d_X6_power_43 fl_6_180 hall_15 (by decide) ?_
        refine g_iload_n d_X6_power_46 rfl ?_
        refine h_iret d_X6_power_47 rfl ?_
        refine ⟨_, rfl, ?_⟩
        rw [mu_pu (by decide)]
        refine MtH.of [some (.ref 360), some (.int (nI u)), none] pl_X7 rfl rfl ?_
        refine g_aload_n d_X7_power_0 rfl ?_
        refine g_iconst d_X7_power_1 ik_0 ?_
        refine mm_putI d_X7_power_2 fl_7_62 sp_M rfl ?_
        refine g_aload_n d_X7_power_5 rfl ?_
        refine h_V0i d_X7_power_6 cl_7_195 (m7_isNothing ((hs_j (by decide)).trans wM)) sp_M (by decide) rfl (Nat.le_of_ble_eq_true rfl) (by decide) ?_
        refine g_if_eq d_X7_power_9 (fun c9 => ?_) (fun c9 => ?_)
        · refine g_iload_n d_X7_power_15 rfl ?_
          refine g_iconst d_X7_power_16 ik_1 ?_
          refine g_iconst d_X7_power_17 ik_5 ?_
          refine h_S3i d_X7_power_18 cl_7_70 m7_in (Nat.le_of_ble_eq_true rfl) (by decide) ?_
          refine g_if_ne d_X7_power_21 (fun c21 => ?_) (fun c21 => ?_)
          · refine g_aload_n d_X7_power_27 rfl ?_
            refine h_V0P d_X7_power_28 cl_7_198 (m7_notes (c := c0) ((hs_b (by decide)).trans hA.2.1) hA.2.2.1) sp_M (by decide) rfl (Nat.le_of_ble_eq_true rfl) (by decide) ?_
            intro v' h' hp
            obtain ⟨rfl, w1, rfl, nt⟩ := hp
            have hS1 : HS M N (hv h 15) (w1 7) (w1 8) := hS.mv (fun y _ => nt.r0 (by decide) (by decide)) (fun y _ => nt.r0 (by decide) (by decide))
            refine g_aload_n d_X7_power_31 rfl ?_
            refine h_getR d_X7_power_32 fl_7_31 sp_M rfl ?_
            refine g_iconst d_X7_power_35 ik_1 ?_
            refine mm_aldV (k := 1) (v := hv h 15 0 0) d_X7_power_36 (j := 8) sp_m_s rfl (by decide) rfl (by omega) (by decide) ((nt.r0 (by decide) (by decide)).trans hS.2.1.1.1.symm) ?_
            refine w_istore_n (L' := [_, _, _]) d_X7_power_37 rfl rfl rfl ?_
            refine g_aload_n d_X7_power_38 rfl ?_
            refine h_getR d_X7_power_39 fl_7_31 sp_M rfl ?_
            refine g_iconst d_X7_power_42 ik_1 ?_
            refine g_iload_n d_X7_power_43 rfl ?_
            refine mm_astE (k := 1) d_X7_power_44 (j := 8) sp_m_s rfl (by decide) rfl (by omega) (by decide) ?_
            refine g_iload_n d_X7_power_45 rfl ?_
            refine h_iret d_X7_power_46 rfl ?_
            exact ⟨rfl, act_end hR hi0 hA hS nt (fun x y h1 => hs_j h1) (hS1.power (v := u) (by simp only [b2i_eq0, b2i_ne0, Int32.lt_iff_toInt_lt, Int32.le_iff_toInt_le, t_0, t_1, t_2, t_3, t_4, t_5, t_6, t_7, t_8, t_9, t_10, t_11, t_12, t_20, t_24, t_40, t_50, t_60, t_99, t_110, t_255, t_999, t_999999, t_m1, eu, gM, gN, eM, eN, eM1, eN1] at *; omega) (by omega))⟩
          · exfalso
            simp only [b2i_eq0, b2i_ne0, Int32.lt_iff_toInt_lt, Int32.le_iff_toInt_le, t_0, t_1, t_2, t_3, t_4, t_5, t_6, t_7, t_8, t_9, t_10, t_11, t_12, t_20, t_24, t_40, t_50, t_60, t_99, t_110, t_255, t_999, t_999999, t_m1, eu, gM, gN, eM, eN, eM1, eN1] at *
            omega
        · exact absurd (b2i_ne0.mp c9) hM0
      · refine g_ldc d_X6_power_23 kc_X6_66 ?_
        refine h_iret d_X6_power_25 rfl ?_
        refine ⟨_, rfl, ?_⟩
        rw [← mu_15]
        refine MtH.of [some (.ref 360), some (.int x), none] pl_X7 rfl rfl ?_
        refine g_aload_n d_X7_power_0 rfl ?_
        refine g_iconst d_X7_power_1 ik_0 ?_
        refine mm_putI d_X7_power_2 fl_7_62 sp_M rfl ?_
        refine g_aload_n d_X7_power_5 rfl ?_
        refine h_V0i d_X7_power_6 cl_7_195 (m7_isNothing ((hs_j (by decide)).trans wM)) sp_M (by decide) rfl (Nat.le_of_ble_eq_true rfl) (by decide) ?_
        refine g_if_eq d_X7_power_9 (fun c9 => ?_) (fun c9 => ?_)
        · refine g_iload_n d_X7_power_15 rfl ?_
          refine g_iconst d_X7_power_16 ik_1 ?_
          refine g_iconst d_X7_power_17 ik_5 ?_
          refine h_S3i d_X7_power_18 cl_7_70 m7_in (Nat.le_of_ble_eq_true rfl) (by decide) ?_
          refine g_if_ne d_X7_power_21 (fun c21 => ?_) (fun c21 => ?_)
          · exfalso
            simp only [b2i_eq0, b2i_ne0, Int32.lt_iff_toInt_lt, Int32.le_iff_toInt_le, t_0, t_1, t_2, t_3, t_4, t_5, t_6, t_7, t_8, t_9, t_10, t_11, t_12, t_20, t_24, t_40, t_50, t_60, t_99, t_110, t_255, t_999, t_999999, t_m1, gM, gN, eM, eN, eM1, eN1] at *
            omega
          · refine g_ldc d_X7_power_24 kc_X7_78 ?_
            refine h_iret d_X7_power_26 rfl ?_
            exact ⟨rfl, _, _, rfl, hR.fr fr_thrown⟩
        · exact absurd (b2i_ne0.mp c9) hM0
  · refine g_ldc d_X6_power_10 kc_X6_141 ?_
    refine h_iret d_X6_power_12 rfl ?_
    refine ⟨_, rfl, ?_⟩
    rw [← mu_15]
    refine MtH.of [some (.ref 360), some (.int x), none] pl_X7 rfl rfl ?_
    refine g_aload_n d_X7_power_0 rfl ?_
    refine g_iconst d_X7_power_1 ik_0 ?_
    refine mm_putI d_X7_power_2 fl_7_62 sp_M rfl ?_
    refine g_aload_n d_X7_power_5 rfl ?_
    refine h_V0i d_X7_power_6 cl_7_195 (m7_isNothing ((hs_j (by decide)).trans wM)) sp_M (by decide) rfl (Nat.le_of_ble_eq_true rfl) (by decide) ?_
    refine g_if_eq d_X7_power_9 (fun c9 => ?_) (fun c9 => ?_)
    · exact absurd (gM.symm.trans (b2i_ne0.mp c7)) (b2i_eq0.mp c9)
    · refine g_ldc d_X7_power_12 kc_X7_194 ?_
      refine h_iret d_X7_power_14 rfl ?_
      exact ⟨rfl, _, _, rfl, hR.fr fr_thrown⟩
theorem op_shut {h w : Hv} (hR : RelP h w) {x : Int32} : OPI M_X6_shut M_X7_shut 4 3 [.int x] (mu h w) := by
  obtain ⟨M, N, hM5, hN6, gM, wM, gN, wN, hZ⟩ := hR.mn
  have eM : (nI M).toInt = M := nI_toInt (by omega)
  have eN : (nI N).toInt = N := nI_toInt (by omega)
  have eM1 := nI_predI (t := M) (by omega)
  have eN1 := nI_predI (t := N) (by omega)
  rw [mu_15]
  refine MtH.of [some (.ref 0), some (.int x)] pl_X6 rfl rfl ?_
  refine g_aload_n d_X6_shut_0 rfl ?_
  refine h_getR d_X6_shut_1 fl_6_26 sp_L rfl ?_
  refine g_iload_n d_X6_shut_4 rfl ?_
  refine h_V1i d_X6_shut_5 cl_6_170 (m_hasMachine hall_15) (sp_hall hall_15) (by decide) rfl (Nat.le_of_ble_eq_true rfl) (by decide) ?_
  refine g_if_ne d_X6_shut_8 (fun c8 => ?_) (fun c8 => ?_)
  · obtain ⟨r, hr, rfl⟩ := rngI (x := x) (B := M) (by simp only [b2i_eq0, b2i_ne0, Int32.lt_iff_toInt_lt, Int32.le_iff_toInt_le, t_0, t_1, t_2, t_3, t_4, t_5, t_6, t_7, t_8, t_9, t_10, t_11, t_12, t_20, t_24, t_40, t_50, t_60, t_99, t_110, t_255, t_999, t_999999, t_m1, gM, gN, eM, eN, eM1, eN1] at *; omega) (by simp only [b2i_eq0, b2i_ne0, Int32.lt_iff_toInt_lt, Int32.le_iff_toInt_le, t_0, t_1, t_2, t_3, t_4, t_5, t_6, t_7, t_8, t_9, t_10, t_11, t_12, t_20, t_24, t_40, t_50, t_60, t_99, t_110, t_255, t_999, t_999999, t_m1, gM, gN, eM, eN, eM1, eN1] at *; omega)
    have er : (nI r).toInt = r := nI_toInt (by omega)
    obtain ⟨i0, c0, hi0, hi1, hS, hA, hO⟩ := (hZ.resolve_left (fun z => by have := z.1; have := z.2.1; omega)).2.2
    have hI := hS.1
    refine g_aload_n d_X6_shut_14 rfl ?_
    refine h_V0v d_X6_shut_15 cl_6_161 (p_beginAct hi1 hi0 hA.1 hA.2.2.1) sp_L (by decide) rfl (Nat.le_of_ble_eq_true rfl) (by decide) ?_
    refine g_aload_n d_X6_shut_18 rfl ?_
    refine h_getR d_X6_shut_19 fl_6_26 sp_L rfl ?_
    refine g_iload_n d_X6_shut_22 rfl ?_
    refine h_V1v d_X6_shut_23 cl_6_173 (m_turn hall_15) (sp_hall hall_15) (by decide) rfl (Nat.le_of_ble_eq_true rfl) (by decide) ?_
    refine g_aload_n d_X6_shut_26 rfl ?_
    refine h_getR d_X6_shut_27 fl_6_26 sp_L rfl ?_
    refine g_iload_n d_X6_shut_30 rfl ?_
    refine h_V1i d_X6_shut_31 cl_6_177 (m_isOpen hall_15) (sp_hall hall_15) (by decide) rfl (Nat.le_of_ble_eq_true rfl) (by decide) ?_
    refine g_if_eq d_X6_shut_34 (fun c34 => ?_) (fun c34 => ?_)
    · refine g_iconst d_X6_shut_41 ik_0 ?_
      refine h_iret d_X6_shut_42 rfl ?_
      refine ⟨_, rfl, ?_⟩
      rw [mu_pu (by decide)]
      refine MtH.of [some (.ref 360), some (.int (nI r))] pl_X7 rfl rfl ?_
      refine g_aload_n d_X7_shut_0 rfl ?_
      refine g_iconst d_X7_shut_1 ik_0 ?_
      refine mm_putI d_X7_shut_2 fl_7_62 sp_M rfl ?_
      refine g_aload_n d_X7_shut_5 rfl ?_
      refine g_iload_n d_X7_shut_6 rfl ?_
      refine h_V1i d_X7_shut_7 cl_7_201 (m7_isMachine ((hs_j (by decide)).trans wM)) sp_M (by decide) rfl (Nat.le_of_ble_eq_true rfl) (by decide) ?_
      refine g_if_ne d_X7_shut_10 (fun c10 => ?_) (fun c10 => ?_)
      · refine g_aload_n d_X7_shut_16 rfl ?_
        refine h_V0P d_X7_shut_17 cl_7_198 (m7_notes (c := c0) ((hs_b (by decide)).trans hA.2.1) hA.2.2.1) sp_M (by decide) rfl (Nat.le_of_ble_eq_true rfl) (by decide) ?_
        intro v' h' hp
        obtain ⟨rfl, w1, rfl, nt⟩ := hp
        have hS1 : HS M N (hv h 15) (w1 7) (w1 8) := hS.mv (fun y _ => nt.r0 (by decide) (by decide)) (fun y _ => nt.r0 (by decide) (by decide))
        refine g_aload_n d_X7_shut_20 rfl ?_
        refine h_getR d_X7_shut_21 fl_7_31 sp_M rfl ?_
        refine g_iconst d_X7_shut_24 ik_2 ?_
        refine g_dup2 d_X7_shut_25 rfl rfl ?_
        refine mm_aldV (k := 2) (v := hv h 15 0 4) d_X7_shut_26 (j := 8) sp_m_s rfl (by decide) rfl (by omega) (by decide) ((nt.r0 (by decide) (by decide)).trans hS.2.1.1.2.2.2.2.symm) ?_
        refine g_iconst d_X7_shut_27 ik_1 ?_
        refine g_iload_n d_X7_shut_28 rfl ?_
        refine g_ishl d_X7_shut_29 ?_
        refine g_ixor d_X7_shut_30 ?_
        refine mm_astE (k := 2) d_X7_shut_31 (j := 8) sp_m_s rfl (by decide) rfl (by omega) (by decide) ?_
        refine g_aload_n d_X7_shut_32 rfl ?_
        refine h_getR d_X7_shut_33 fl_7_31 sp_M rfl ?_
        refine g_iconst d_X7_shut_36 ik_2 ?_
        refine mm_aldV (k := 2) (v := (hset (hv h 15) 0 4 (hv h 15 0 4 ^^^ 1 <<< (nI r &&& 31))) 0 4) d_X7_shut_37 (j := 8) sp_m_s rfl (by decide) rfl (by omega) (by decide) (hs_at.trans hs_at.symm) ?_
        refine g_iload_n d_X7_shut_38 rfl ?_
        refine g_ishr d_X7_shut_39 ?_
        refine g_iconst d_X7_shut_40 ik_1 ?_
        refine g_iand d_X7_shut_41 ?_
        refine h_iret d_X7_shut_42 rfl ?_
        have hbt := (hS1.turn hr).1.bit hr
        exact ⟨by first | rw [b2i_ne0.mp c34] | rw [hbt.resolve_right (b2i_eq0.mp c34)], act_end hR hi0 hA hS nt (fun x y h1 => hs_j h1) (hS1.turn hr)⟩
      · exfalso
        simp only [b2i_eq0, b2i_ne0, Int32.lt_iff_toInt_lt, Int32.le_iff_toInt_le, t_0, t_1, t_2, t_3, t_4, t_5, t_6, t_7, t_8, t_9, t_10, t_11, t_12, t_20, t_24, t_40, t_50, t_60, t_99, t_110, t_255, t_999, t_999999, t_m1, er, gM, gN, eM, eN, eM1, eN1] at *
        omega
    · refine g_iconst d_X6_shut_37 ik_1 ?_
      refine g_goto d_X6_shut_38 ?_
      refine h_iret d_X6_shut_42 rfl ?_
      refine ⟨_, rfl, ?_⟩
      rw [mu_pu (by decide)]
      refine MtH.of [some (.ref 360), some (.int (nI r))] pl_X7 rfl rfl ?_
      refine g_aload_n d_X7_shut_0 rfl ?_
      refine g_iconst d_X7_shut_1 ik_0 ?_
      refine mm_putI d_X7_shut_2 fl_7_62 sp_M rfl ?_
      refine g_aload_n d_X7_shut_5 rfl ?_
      refine g_iload_n d_X7_shut_6 rfl ?_
      refine h_V1i d_X7_shut_7 cl_7_201 (m7_isMachine ((hs_j (by decide)).trans wM)) sp_M (by decide) rfl (Nat.le_of_ble_eq_true rfl) (by decide) ?_
      refine g_if_ne d_X7_shut_10 (fun c10 => ?_) (fun c10 => ?_)
      · refine g_aload_n d_X7_shut_16 rfl ?_
        refine h_V0P d_X7_shut_17 cl_7_198 (m7_notes (c := c0) ((hs_b (by decide)).trans hA.2.1) hA.2.2.1) sp_M (by decide) rfl (Nat.le_of_ble_eq_true rfl) (by decide) ?_
        intro v' h' hp
        obtain ⟨rfl, w1, rfl, nt⟩ := hp
        have hS1 : HS M N (hv h 15) (w1 7) (w1 8) := hS.mv (fun y _ => nt.r0 (by decide) (by decide)) (fun y _ => nt.r0 (by decide) (by decide))
        refine g_aload_n d_X7_shut_20 rfl ?_
        refine h_getR d_X7_shut_21 fl_7_31 sp_M rfl ?_
        refine g_iconst d_X7_shut_24 ik_2 ?_
        refine g_dup2 d_X7_shut_25 rfl rfl ?_
        refine mm_aldV (k := 2) (v := hv h 15 0 4) d_X7_shut_26 (j := 8) sp_m_s rfl (by decide) rfl (by omega) (by decide) ((nt.r0 (by decide) (by decide)).trans hS.2.1.1.2.2.2.2.symm) ?_
        refine g_iconst d_X7_shut_27 ik_1 ?_
        refine g_iload_n d_X7_shut_28 rfl ?_
        refine g_ishl d_X7_shut_29 ?_
        refine g_ixor d_X7_shut_30 ?_
        refine mm_astE (k := 2) d_X7_shut_31 (j := 8) sp_m_s rfl (by decide) rfl (by omega) (by decide) ?_
        refine g_aload_n d_X7_shut_32 rfl ?_
        refine h_getR d_X7_shut_33 fl_7_31 sp_M rfl ?_
        refine g_iconst d_X7_shut_36 ik_2 ?_
        refine mm_aldV (k := 2) (v := (hset (hv h 15) 0 4 (hv h 15 0 4 ^^^ 1 <<< (nI r &&& 31))) 0 4) d_X7_shut_37 (j := 8) sp_m_s rfl (by decide) rfl (by omega) (by decide) (hs_at.trans hs_at.symm) ?_
        refine g_iload_n d_X7_shut_38 rfl ?_
        refine g_ishr d_X7_shut_39 ?_
        refine g_iconst d_X7_shut_40 ik_1 ?_
        refine g_iand d_X7_shut_41 ?_
        refine h_iret d_X7_shut_42 rfl ?_
        have hbt := (hS1.turn hr).1.bit hr
        exact ⟨by first | rw [b2i_ne0.mp c34] | rw [hbt.resolve_right (b2i_eq0.mp c34)], act_end hR hi0 hA hS nt (fun x y h1 => hs_j h1) (hS1.turn hr)⟩
      · exfalso
        simp only [b2i_eq0, b2i_ne0, Int32.lt_iff_toInt_lt, Int32.le_iff_toInt_le, t_0, t_1, t_2, t_3, t_4, t_5, t_6, t_7, t_8, t_9, t_10, t_11, t_12, t_20, t_24, t_40, t_50, t_60, t_99, t_110, t_255, t_999, t_999999, t_m1, er, gM, gN, eM, eN, eM1, eN1] at *
        omega
  · refine g_ldc d_X6_shut_11 kc_X6_66 ?_
    refine h_iret d_X6_shut_13 rfl ?_
    refine ⟨_, rfl, ?_⟩
    rw [← mu_15]
    refine MtH.of [some (.ref 360), some (.int x)] pl_X7 rfl rfl ?_
    refine g_aload_n d_X7_shut_0 rfl ?_
    refine g_iconst d_X7_shut_1 ik_0 ?_
    refine mm_putI d_X7_shut_2 fl_7_62 sp_M rfl ?_
    refine g_aload_n d_X7_shut_5 rfl ?_
    refine g_iload_n d_X7_shut_6 rfl ?_
    refine h_V1i d_X7_shut_7 cl_7_201 (m7_isMachine ((hs_j (by decide)).trans wM)) sp_M (by decide) rfl (Nat.le_of_ble_eq_true rfl) (by decide) ?_
    refine g_if_ne d_X7_shut_10 (fun c10 => ?_) (fun c10 => ?_)
    · exfalso
      simp only [b2i_eq0, b2i_ne0, Int32.lt_iff_toInt_lt, Int32.le_iff_toInt_le, t_0, t_1, t_2, t_3, t_4, t_5, t_6, t_7, t_8, t_9, t_10, t_11, t_12, t_20, t_24, t_40, t_50, t_60, t_99, t_110, t_255, t_999, t_999999, t_m1, gM, gN, eM, eN, eM1, eN1] at *
      omega
    · refine g_ldc d_X7_shut_13 kc_X7_78 ?_
      refine h_iret d_X7_shut_15 rfl ?_
      exact ⟨rfl, _, _, rfl, hR.fr fr_thrown⟩
theorem op_due {h w : Hv} (hR : RelP h w) {x y : Int32} : OPI M_X6_due M_X7_due 4 3 [.int x, .int y] (mu h w) := by
  obtain ⟨M, N, hM5, hN6, gM, wM, gN, wN, hZ⟩ := hR.mn
  have eM : (nI M).toInt = M := nI_toInt (by omega)
  have eN : (nI N).toInt = N := nI_toInt (by omega)
  have eM1 := nI_predI (t := M) (by omega)
  have eN1 := nI_predI (t := N) (by omega)
  rw [mu_15]
  refine MtH.of [some (.ref 0), some (.int x), some (.int y), none] pl_X6 rfl rfl ?_
  refine g_aload_n d_X6_due_0 rfl ?_
  refine h_getR d_X6_due_1 fl_6_26 sp_L rfl ?_
  refine g_iload_n d_X6_due_4 rfl ?_
  refine h_V1i d_X6_due_5 cl_6_183 (m_hasLoad hall_15) (sp_hall hall_15) (by decide) rfl (Nat.le_of_ble_eq_true rfl) (by decide) ?_
  refine g_if_eq d_X6_due_8 (fun c8 => ?_) (fun c8 => ?_)
  · refine g_ldc d_X6_due_21 kc_X6_66 ?_
    refine h_iret d_X6_due_23 rfl ?_
    refine ⟨_, rfl, ?_⟩
    rw [← mu_15]
    refine MtH.of [some (.ref 360), some (.int x), some (.int y), none] pl_X7 rfl rfl ?_
    refine g_aload_n d_X7_due_0 rfl ?_
    refine g_iconst d_X7_due_1 ik_0 ?_
    refine mm_putI d_X7_due_2 fl_7_62 sp_M rfl ?_
    refine g_aload_n d_X7_due_5 rfl ?_
    refine g_iload_n d_X7_due_6 rfl ?_
    refine h_V1i d_X7_due_7 cl_7_204 (m7_isLoad ((hs_j (by decide)).trans wN)) sp_M (by decide) rfl (Nat.le_of_ble_eq_true rfl) (by decide) ?_
    refine g_if_eq d_X7_due_10 (fun c10 => ?_) (fun c10 => ?_)
    · refine g_ldc d_X7_due_23 kc_X7_78 ?_
      refine h_iret d_X7_due_25 rfl ?_
      exact ⟨rfl, _, _, rfl, hR.fr fr_thrown⟩
    · refine g_iload_n d_X7_due_13 rfl ?_
      refine g_iconst d_X7_due_14 ik_0 ?_
      refine g_bipush d_X7_due_15 bk_99 ?_
      refine h_S3i d_X7_due_17 cl_7_70 m7_in (Nat.le_of_ble_eq_true rfl) (by decide) ?_
      refine g_if_ne d_X7_due_20 (fun c20 => ?_) (fun c20 => ?_)
      · exfalso
        simp only [b2i_eq0, b2i_ne0, Int32.lt_iff_toInt_lt, Int32.le_iff_toInt_le, t_0, t_1, t_2, t_3, t_4, t_5, t_6, t_7, t_8, t_9, t_10, t_11, t_12, t_20, t_24, t_40, t_50, t_60, t_99, t_110, t_255, t_999, t_999999, t_m1, gM, gN, eM, eN, eM1, eN1] at *
        omega
      · refine g_ldc d_X7_due_23 kc_X7_78 ?_
        refine h_iret d_X7_due_25 rfl ?_
        exact ⟨rfl, _, _, rfl, hR.fr fr_thrown⟩
  · refine g_iload_n d_X6_due_11 rfl ?_
    refine g_if_lt d_X6_due_12 (fun c12 => ?_) (fun c12 => ?_)
    · refine g_ldc d_X6_due_21 kc_X6_66 ?_
      refine h_iret d_X6_due_23 rfl ?_
      refine ⟨_, rfl, ?_⟩
      rw [← mu_15]
      refine MtH.of [some (.ref 360), some (.int x), some (.int y), none] pl_X7 rfl rfl ?_
      refine g_aload_n d_X7_due_0 rfl ?_
      refine g_iconst d_X7_due_1 ik_0 ?_
      refine mm_putI d_X7_due_2 fl_7_62 sp_M rfl ?_
      refine g_aload_n d_X7_due_5 rfl ?_
      refine g_iload_n d_X7_due_6 rfl ?_
      refine h_V1i d_X7_due_7 cl_7_204 (m7_isLoad ((hs_j (by decide)).trans wN)) sp_M (by decide) rfl (Nat.le_of_ble_eq_true rfl) (by decide) ?_
      refine g_if_eq d_X7_due_10 (fun c10 => ?_) (fun c10 => ?_)
      · refine g_ldc d_X7_due_23 kc_X7_78 ?_
        refine h_iret d_X7_due_25 rfl ?_
        exact ⟨rfl, _, _, rfl, hR.fr fr_thrown⟩
      · refine g_iload_n d_X7_due_13 rfl ?_
        refine g_iconst d_X7_due_14 ik_0 ?_
        refine g_bipush d_X7_due_15 bk_99 ?_
        refine h_S3i d_X7_due_17 cl_7_70 m7_in (Nat.le_of_ble_eq_true rfl) (by decide) ?_
        refine g_if_ne d_X7_due_20 (fun c20 => ?_) (fun c20 => ?_)
        · exfalso
          simp only [b2i_eq0, b2i_ne0, Int32.lt_iff_toInt_lt, Int32.le_iff_toInt_le, t_0, t_1, t_2, t_3, t_4, t_5, t_6, t_7, t_8, t_9, t_10, t_11, t_12, t_20, t_24, t_40, t_50, t_60, t_99, t_110, t_255, t_999, t_999999, t_m1, gM, gN, eM, eN, eM1, eN1] at *
          omega
        · refine g_ldc d_X7_due_23 kc_X7_78 ?_
          refine h_iret d_X7_due_25 rfl ?_
          exact ⟨rfl, _, _, rfl, hR.fr fr_thrown⟩
    · refine g_iload_n d_X6_due_15 rfl ?_
      refine g_bipush d_X6_due_16 bk_99 ?_
      refine g_icmp_le d_X6_due_18 (fun c18 => ?_) (fun c18 => ?_)
      · obtain ⟨l, hl, rfl⟩ := rngI (x := x) (B := N) (by simp only [b2i_eq0, b2i_ne0, Int32.lt_iff_toInt_lt, Int32.le_iff_toInt_le, t_0, t_1, t_2, t_3, t_4, t_5, t_6, t_7, t_8, t_9, t_10, t_11, t_12, t_20, t_24, t_40, t_50, t_60, t_99, t_110, t_255, t_999, t_999999, t_m1, gM, gN, eM, eN, eM1, eN1] at *; omega) (by simp only [b2i_eq0, b2i_ne0, Int32.lt_iff_toInt_lt, Int32.le_iff_toInt_le, t_0, t_1, t_2, t_3, t_4, t_5, t_6, t_7, t_8, t_9, t_10, t_11, t_12, t_20, t_24, t_40, t_50, t_60, t_99, t_110, t_255, t_999, t_999999, t_m1, gM, gN, eM, eN, eM1, eN1] at *; omega)
        have el : (nI l).toInt = l := nI_toInt (by omega)
        obtain ⟨i0, c0, hi0, hi1, hS, hA, hO⟩ := (hZ.resolve_left (fun z => by have := z.1; have := z.2.1; omega)).2.2
        have hI := hS.1
        obtain ⟨u, hu, rfl⟩ := rngI (x := y) (B := 100) (by simp only [b2i_eq0, b2i_ne0, Int32.lt_iff_toInt_lt, Int32.le_iff_toInt_le, t_0, t_1, t_2, t_3, t_4, t_5, t_6, t_7, t_8, t_9, t_10, t_11, t_12, t_20, t_24, t_40, t_50, t_60, t_99, t_110, t_255, t_999, t_999999, t_m1, el, gM, gN, eM, eN, eM1, eN1] at *; omega) (by simp only [b2i_eq0, b2i_ne0, Int32.lt_iff_toInt_lt, Int32.le_iff_toInt_le, t_0, t_1, t_2, t_3, t_4, t_5, t_6, t_7, t_8, t_9, t_10, t_11, t_12, t_20, t_24, t_40, t_50, t_60, t_99, t_110, t_255, t_999, t_999999, t_m1, el, gM, gN, eM, eN, eM1, eN1] at *; omega)
        have eu : (nI u).toInt = u := nI_toInt (by omega)
        refine g_aload_n d_X6_due_24 rfl ?_
        refine h_V0v d_X6_due_25 cl_6_161 (p_beginAct hi1 hi0 hA.1 hA.2.2.1) sp_L (by decide) rfl (Nat.le_of_ble_eq_true rfl) (by decide) ?_
        refine g_aload_n d_X6_due_28 rfl ?_
        refine h_getR d_X6_due_29 fl_6_26 sp_L rfl ?_
        refine h_getR d_X6_due_32 fl_6_186 (sp_hall hall_15) rfl ?_
        refine g_iload_n d_X6_due_35 rfl ?_
        refine hh_aldE (k := l) d_X6_due_36 (sp_h8 hall_15) (by decide) rfl (by omega) (by decide) ?_
        refine w_istore_n (L' := [_, _, _, _]) d_X6_due_37 rfl rfl rfl ?_
        refine g_aload_n d_X6_due_38 rfl ?_
        refine h_getR d_X6_due_39 fl_6_26 sp_L rfl ?_
        refine h_getR d_X6_due_42 fl_6_186 (sp_hall hall_15) rfl ?_
        refine g_iload_n d_X6_due_45 rfl ?_
        refine g_iload_n d_X6_due_46 rfl ?_
        refine hh_astE (k := l) d_X6_due_47 (sp_h8 hall_15) (by decide) rfl (by omega) (by decide) ?_
        refine g_iload_n d_X6_due_48 rfl ?_
        refine h_iret d_X6_due_49 rfl ?_
        refine ⟨_, rfl, ?_⟩
        rw [mu_pu (by decide)]
        refine MtH.of [some (.ref 360), some (.int (nI l)), some (.int (nI u)), none] pl_X7 rfl rfl ?_
        refine g_aload_n d_X7_due_0 rfl ?_
        refine g_iconst d_X7_due_1 ik_0 ?_
        refine mm_putI d_X7_due_2 fl_7_62 sp_M rfl ?_
        refine g_aload_n d_X7_due_5 rfl ?_
        refine g_iload_n d_X7_due_6 rfl ?_
        refine h_V1i d_X7_due_7 cl_7_204 (m7_isLoad ((hs_j (by decide)).trans wN)) sp_M (by decide) rfl (Nat.le_of_ble_eq_true rfl) (by decide) ?_
        refine g_if_eq d_X7_due_10 (fun c10 => ?_) (fun c10 => ?_)
        · exfalso
          simp only [b2i_eq0, b2i_ne0, Int32.lt_iff_toInt_lt, Int32.le_iff_toInt_le, t_0, t_1, t_2, t_3, t_4, t_5, t_6, t_7, t_8, t_9, t_10, t_11, t_12, t_20, t_24, t_40, t_50, t_60, t_99, t_110, t_255, t_999, t_999999, t_m1, el, eu, gM, gN, eM, eN, eM1, eN1] at *
          omega
        · refine g_iload_n d_X7_due_13 rfl ?_
          refine g_iconst d_X7_due_14 ik_0 ?_
          refine g_bipush d_X7_due_15 bk_99 ?_
          refine h_S3i d_X7_due_17 cl_7_70 m7_in (Nat.le_of_ble_eq_true rfl) (by decide) ?_
          refine g_if_ne d_X7_due_20 (fun c20 => ?_) (fun c20 => ?_)
          · refine g_aload_n d_X7_due_26 rfl ?_
            refine h_V0P d_X7_due_27 cl_7_198 (m7_notes (c := c0) ((hs_b (by decide)).trans hA.2.1) hA.2.2.1) sp_M (by decide) rfl (Nat.le_of_ble_eq_true rfl) (by decide) ?_
            intro v' h' hp
            obtain ⟨rfl, w1, rfl, nt⟩ := hp
            have hS1 : HS M N (hv h 15) (w1 7) (w1 8) := hS.mv (fun y _ => nt.r0 (by decide) (by decide)) (fun y _ => nt.r0 (by decide) (by decide))
            refine g_aload_n d_X7_due_30 rfl ?_
            refine h_getR d_X7_due_31 fl_7_31 sp_M rfl ?_
            refine g_bipush d_X7_due_34 bk_24 ?_
            refine g_iload_n d_X7_due_36 rfl ?_
            refine g_iadd d_X7_due_37 ?_
            refine mm_aldV (k := (24 + l)) (v := hv h 15 8 l) d_X7_due_38 (j := 8) sp_m_s rfl (by decide) (nAdd rfl rfl) (by omega) (by decide) ((nt.r0 (by decide) (by decide)).trans (hS.2.1.2.2 l hl).2.1.symm) ?_
            refine w_istore_n (L' := [_, _, _, _]) d_X7_due_39 rfl rfl rfl ?_
            refine g_aload_n d_X7_due_40 rfl ?_
            refine h_getR d_X7_due_41 fl_7_31 sp_M rfl ?_
            refine g_bipush d_X7_due_44 bk_24 ?_
            refine g_iload_n d_X7_due_46 rfl ?_
            refine g_iadd d_X7_due_47 ?_
            refine g_iload_n d_X7_due_48 rfl ?_
            refine mm_astE (k := (24 + l)) d_X7_due_49 (j := 8) sp_m_s rfl (by decide) (nAdd rfl rfl) (by omega) (by decide) ?_
            refine g_iload_n d_X7_due_50 rfl ?_
            refine h_iret d_X7_due_51 rfl ?_
            exact ⟨rfl, act_end hR hi0 hA hS nt (fun x y h1 => hs_j h1) (hS1.due hl (by omega))⟩
          · exfalso
            simp only [b2i_eq0, b2i_ne0, Int32.lt_iff_toInt_lt, Int32.le_iff_toInt_le, t_0, t_1, t_2, t_3, t_4, t_5, t_6, t_7, t_8, t_9, t_10, t_11, t_12, t_20, t_24, t_40, t_50, t_60, t_99, t_110, t_255, t_999, t_999999, t_m1, el, eu, gM, gN, eM, eN, eM1, eN1] at *
            omega
      · refine g_ldc d_X6_due_21 kc_X6_66 ?_
        refine h_iret d_X6_due_23 rfl ?_
        refine ⟨_, rfl, ?_⟩
        rw [← mu_15]
        refine MtH.of [some (.ref 360), some (.int x), some (.int y), none] pl_X7 rfl rfl ?_
        refine g_aload_n d_X7_due_0 rfl ?_
        refine g_iconst d_X7_due_1 ik_0 ?_
        refine mm_putI d_X7_due_2 fl_7_62 sp_M rfl ?_
        refine g_aload_n d_X7_due_5 rfl ?_
        refine g_iload_n d_X7_due_6 rfl ?_
        refine h_V1i d_X7_due_7 cl_7_204 (m7_isLoad ((hs_j (by decide)).trans wN)) sp_M (by decide) rfl (Nat.le_of_ble_eq_true rfl) (by decide) ?_
        refine g_if_eq d_X7_due_10 (fun c10 => ?_) (fun c10 => ?_)
        · refine g_ldc d_X7_due_23 kc_X7_78 ?_
          refine h_iret d_X7_due_25 rfl ?_
          exact ⟨rfl, _, _, rfl, hR.fr fr_thrown⟩
        · refine g_iload_n d_X7_due_13 rfl ?_
          refine g_iconst d_X7_due_14 ik_0 ?_
          refine g_bipush d_X7_due_15 bk_99 ?_
          refine h_S3i d_X7_due_17 cl_7_70 m7_in (Nat.le_of_ble_eq_true rfl) (by decide) ?_
          refine g_if_ne d_X7_due_20 (fun c20 => ?_) (fun c20 => ?_)
          · exfalso
            simp only [b2i_eq0, b2i_ne0, Int32.lt_iff_toInt_lt, Int32.le_iff_toInt_le, t_0, t_1, t_2, t_3, t_4, t_5, t_6, t_7, t_8, t_9, t_10, t_11, t_12, t_20, t_24, t_40, t_50, t_60, t_99, t_110, t_255, t_999, t_999999, t_m1, gM, gN, eM, eN, eM1, eN1] at *
            omega
          · refine g_ldc d_X7_due_23 kc_X7_78 ?_
            refine h_iret d_X7_due_25 rfl ?_
            exact ⟨rfl, _, _, rfl, hR.fr fr_thrown⟩
theorem op_again {h w : Hv} (hR : RelP h w) {x y : Int32} : OPI M_X6_again M_X7_again 4 3 [.int x, .int y] (mu h w) := by
  obtain ⟨M, N, hM5, hN6, gM, wM, gN, wN, hZ⟩ := hR.mn
  have eM : (nI M).toInt = M := nI_toInt (by omega)
  have eN : (nI N).toInt = N := nI_toInt (by omega)
  have eM1 := nI_predI (t := M) (by omega)
  have eN1 := nI_predI (t := N) (by omega)
  rw [mu_15]
  refine MtH.of [some (.ref 0), some (.int x), some (.int y)] pl_X6 rfl rfl ?_
  refine g_aload_n d_X6_again_0 rfl ?_
  refine h_getR d_X6_again_1 fl_6_26 sp_L rfl ?_
  refine g_iload_n d_X6_again_4 rfl ?_
  refine h_V1i d_X6_again_5 cl_6_183 (m_hasLoad hall_15) (sp_hall hall_15) (by decide) rfl (Nat.le_of_ble_eq_true rfl) (by decide) ?_
  refine g_if_eq d_X6_again_8 (fun c8 => ?_) (fun c8 => ?_)
  · refine g_ldc d_X6_again_22 kc_X6_66 ?_
    refine h_iret d_X6_again_24 rfl ?_
    refine ⟨_, rfl, ?_⟩
    rw [← mu_15]
    refine MtH.of [some (.ref 360), some (.int x), some (.int y)] pl_X7 rfl rfl ?_
    refine g_aload_n d_X7_again_0 rfl ?_
    refine g_iconst d_X7_again_1 ik_0 ?_
    refine mm_putI d_X7_again_2 fl_7_62 sp_M rfl ?_
    refine g_aload_n d_X7_again_5 rfl ?_
    refine g_iload_n d_X7_again_6 rfl ?_
    refine h_V1i d_X7_again_7 cl_7_204 (m7_isLoad ((hs_j (by decide)).trans wN)) sp_M (by decide) rfl (Nat.le_of_ble_eq_true rfl) (by decide) ?_
    refine g_if_eq d_X7_again_10 (fun c10 => ?_) (fun c10 => ?_)
    · refine g_ldc d_X7_again_23 kc_X7_78 ?_
      refine h_iret d_X7_again_25 rfl ?_
      exact ⟨rfl, _, _, rfl, hR.fr fr_thrown⟩
    · refine g_iload_n d_X7_again_13 rfl ?_
      refine g_iconst d_X7_again_14 ik_1 ?_
      refine g_bipush d_X7_again_15 bk_9 ?_
      refine h_S3i d_X7_again_17 cl_7_70 m7_in (Nat.le_of_ble_eq_true rfl) (by decide) ?_
      refine g_if_ne d_X7_again_20 (fun c20 => ?_) (fun c20 => ?_)
      · exfalso
        simp only [b2i_eq0, b2i_ne0, Int32.lt_iff_toInt_lt, Int32.le_iff_toInt_le, t_0, t_1, t_2, t_3, t_4, t_5, t_6, t_7, t_8, t_9, t_10, t_11, t_12, t_20, t_24, t_40, t_50, t_60, t_99, t_110, t_255, t_999, t_999999, t_m1, gM, gN, eM, eN, eM1, eN1] at *
        omega
      · refine g_ldc d_X7_again_23 kc_X7_78 ?_
        refine h_iret d_X7_again_25 rfl ?_
        exact ⟨rfl, _, _, rfl, hR.fr fr_thrown⟩
  · refine g_iload_n d_X6_again_11 rfl ?_
    refine g_iconst d_X6_again_12 ik_1 ?_
    refine g_icmp_lt d_X6_again_13 (fun c13 => ?_) (fun c13 => ?_)
    · refine g_ldc d_X6_again_22 kc_X6_66 ?_
      refine h_iret d_X6_again_24 rfl ?_
      refine ⟨_, rfl, ?_⟩
      rw [← mu_15]
      refine MtH.of [some (.ref 360), some (.int x), some (.int y)] pl_X7 rfl rfl ?_
      refine g_aload_n d_X7_again_0 rfl ?_
      refine g_iconst d_X7_again_1 ik_0 ?_
      refine mm_putI d_X7_again_2 fl_7_62 sp_M rfl ?_
      refine g_aload_n d_X7_again_5 rfl ?_
      refine g_iload_n d_X7_again_6 rfl ?_
      refine h_V1i d_X7_again_7 cl_7_204 (m7_isLoad ((hs_j (by decide)).trans wN)) sp_M (by decide) rfl (Nat.le_of_ble_eq_true rfl) (by decide) ?_
      refine g_if_eq d_X7_again_10 (fun c10 => ?_) (fun c10 => ?_)
      · refine g_ldc d_X7_again_23 kc_X7_78 ?_
        refine h_iret d_X7_again_25 rfl ?_
        exact ⟨rfl, _, _, rfl, hR.fr fr_thrown⟩
      · refine g_iload_n d_X7_again_13 rfl ?_
        refine g_iconst d_X7_again_14 ik_1 ?_
        refine g_bipush d_X7_again_15 bk_9 ?_
        refine h_S3i d_X7_again_17 cl_7_70 m7_in (Nat.le_of_ble_eq_true rfl) (by decide) ?_
        refine g_if_ne d_X7_again_20 (fun c20 => ?_) (fun c20 => ?_)
        · exfalso
          simp only [b2i_eq0, b2i_ne0, Int32.lt_iff_toInt_lt, Int32.le_iff_toInt_le, t_0, t_1, t_2, t_3, t_4, t_5, t_6, t_7, t_8, t_9, t_10, t_11, t_12, t_20, t_24, t_40, t_50, t_60, t_99, t_110, t_255, t_999, t_999999, t_m1, gM, gN, eM, eN, eM1, eN1] at *
          omega
        · refine g_ldc d_X7_again_23 kc_X7_78 ?_
          refine h_iret d_X7_again_25 rfl ?_
          exact ⟨rfl, _, _, rfl, hR.fr fr_thrown⟩
    · refine g_iload_n d_X6_again_16 rfl ?_
      refine g_bipush d_X6_again_17 bk_9 ?_
      refine g_icmp_le d_X6_again_19 (fun c19 => ?_) (fun c19 => ?_)
      · obtain ⟨l, hl, rfl⟩ := rngI (x := x) (B := N) (by simp only [b2i_eq0, b2i_ne0, Int32.lt_iff_toInt_lt, Int32.le_iff_toInt_le, t_0, t_1, t_2, t_3, t_4, t_5, t_6, t_7, t_8, t_9, t_10, t_11, t_12, t_20, t_24, t_40, t_50, t_60, t_99, t_110, t_255, t_999, t_999999, t_m1, gM, gN, eM, eN, eM1, eN1] at *; omega) (by simp only [b2i_eq0, b2i_ne0, Int32.lt_iff_toInt_lt, Int32.le_iff_toInt_le, t_0, t_1, t_2, t_3, t_4, t_5, t_6, t_7, t_8, t_9, t_10, t_11, t_12, t_20, t_24, t_40, t_50, t_60, t_99, t_110, t_255, t_999, t_999999, t_m1, gM, gN, eM, eN, eM1, eN1] at *; omega)
        have el : (nI l).toInt = l := nI_toInt (by omega)
        obtain ⟨i0, c0, hi0, hi1, hS, hA, hO⟩ := (hZ.resolve_left (fun z => by have := z.1; have := z.2.1; omega)).2.2
        have hI := hS.1
        obtain ⟨u, hu, rfl⟩ := rngI (x := y) (B := 10) (by simp only [b2i_eq0, b2i_ne0, Int32.lt_iff_toInt_lt, Int32.le_iff_toInt_le, t_0, t_1, t_2, t_3, t_4, t_5, t_6, t_7, t_8, t_9, t_10, t_11, t_12, t_20, t_24, t_40, t_50, t_60, t_99, t_110, t_255, t_999, t_999999, t_m1, el, gM, gN, eM, eN, eM1, eN1] at *; omega) (by simp only [b2i_eq0, b2i_ne0, Int32.lt_iff_toInt_lt, Int32.le_iff_toInt_le, t_0, t_1, t_2, t_3, t_4, t_5, t_6, t_7, t_8, t_9, t_10, t_11, t_12, t_20, t_24, t_40, t_50, t_60, t_99, t_110, t_255, t_999, t_999999, t_m1, el, gM, gN, eM, eN, eM1, eN1] at *; omega)
        have eu : (nI u).toInt = u := nI_toInt (by omega)
        refine g_aload_n d_X6_again_25 rfl ?_
        refine h_getR d_X6_again_26 fl_6_26 sp_L rfl ?_
        refine h_getR d_X6_again_29 fl_6_189 (sp_hall hall_15) rfl ?_
        refine g_iload_n d_X6_again_32 rfl ?_
        refine hh_aldE (k := l) d_X6_again_33 (sp_h9 hall_15) (by decide) rfl (by omega) (by decide) ?_
        refine g_iconst d_X6_again_34 ik_2 ?_
        refine g_icmp_eq d_X6_again_35 (fun c35 => ?_) (fun c35 => ?_)
        · have k35 := c35
          have hu1 : 1 ≤ u := by simp only [b2i_eq0, b2i_ne0, Int32.lt_iff_toInt_lt, Int32.le_iff_toInt_le, t_0, t_1, t_2, t_3, t_4, t_5, t_6, t_7, t_8, t_9, t_10, t_11, t_12, t_20, t_24, t_40, t_50, t_60, t_99, t_110, t_255, t_999, t_999999, t_m1, eu, el, gM, gN, eM, eN, eM1, eN1] at *; omega
          have hI2 := hI.dirt k35 hu1 (show u ≤ 9 by omega)
          refine g_aload_n d_X6_again_41 rfl ?_
          refine h_V0v d_X6_again_42 cl_6_161 (p_beginAct hi1 hi0 hA.1 hA.2.2.1) sp_L (by decide) rfl (Nat.le_of_ble_eq_true rfl) (by decide) ?_
          refine g_aload_n d_X6_again_45 rfl ?_
          refine h_getR d_X6_again_46 fl_6_26 sp_L rfl ?_
          refine g_iload_n d_X6_again_49 rfl ?_
          refine g_iload_n d_X6_again_50 rfl ?_
          refine h_V2v d_X6_again_51 cl_6_192 (m_dirty hall_15 rfl (by omega)) (sp_hall hall_15) (by decide) rfl (Nat.le_of_ble_eq_true rfl) (by decide) ?_
          refine g_aload_n d_X6_again_54 rfl ?_
          refine h_getR d_X6_again_55 fl_6_26 sp_L rfl ?_
          refine g_iconst d_X6_again_58 ik_0 ?_
          refine h_V1i d_X6_again_59 cl_6_167 (m_whichAre hall_15 hI2.hN hN6) (sp_hall hall_15) (by decide) rfl (Nat.le_of_ble_eq_true rfl) (by decide) ?_
          refine h_iret d_X6_again_62 rfl ?_
          refine ⟨_, rfl, ?_⟩
          rw [mu_pu (by decide)]
          refine MtH.of [some (.ref 360), some (.int (nI l)), some (.int (nI u))] pl_X7 rfl rfl ?_
          refine g_aload_n d_X7_again_0 rfl ?_
          refine g_iconst d_X7_again_1 ik_0 ?_
          refine mm_putI d_X7_again_2 fl_7_62 sp_M rfl ?_
          refine g_aload_n d_X7_again_5 rfl ?_
          refine g_iload_n d_X7_again_6 rfl ?_
          refine h_V1i d_X7_again_7 cl_7_204 (m7_isLoad ((hs_j (by decide)).trans wN)) sp_M (by decide) rfl (Nat.le_of_ble_eq_true rfl) (by decide) ?_
          refine g_if_eq d_X7_again_10 (fun c10 => ?_) (fun c10 => ?_)
          · exfalso
            simp only [b2i_eq0, b2i_ne0, Int32.lt_iff_toInt_lt, Int32.le_iff_toInt_le, t_0, t_1, t_2, t_3, t_4, t_5, t_6, t_7, t_8, t_9, t_10, t_11, t_12, t_20, t_24, t_40, t_50, t_60, t_99, t_110, t_255, t_999, t_999999, t_m1, el, eu, gM, gN, eM, eN, eM1, eN1] at *
            omega
          · refine g_iload_n d_X7_again_13 rfl ?_
            refine g_iconst d_X7_again_14 ik_1 ?_
            refine g_bipush d_X7_again_15 bk_9 ?_
            refine h_S3i d_X7_again_17 cl_7_70 m7_in (Nat.le_of_ble_eq_true rfl) (by decide) ?_
            refine g_if_ne d_X7_again_20 (fun c20 => ?_) (fun c20 => ?_)
            · refine g_aload_n d_X7_again_26 rfl ?_
              refine h_getR d_X7_again_27 fl_7_31 sp_M rfl ?_
              refine g_bipush d_X7_again_30 bk_30 ?_
              refine g_iload_n d_X7_again_32 rfl ?_
              refine g_iadd d_X7_again_33 ?_
              refine mm_aldV (k := (30 + l)) (v := hv h 15 9 l) d_X7_again_34 (j := 8) sp_m_s rfl (by decide) (nAdd rfl rfl) (by omega) (by decide) ((hs_j (by decide)).trans (hS.2.1.2.2 l hl).2.2.1.symm) ?_
              refine g_iconst d_X7_again_35 ik_2 ?_
              refine g_icmp_eq d_X7_again_36 (fun c36 => ?_) (fun c36 => absurd k35 c36)
              refine g_aload_n d_X7_again_42 rfl ?_
              refine h_V0P d_X7_again_43 cl_7_198 (m7_notes (c := c0) ((hs_b (by decide)).trans hA.2.1) hA.2.2.1) sp_M (by decide) rfl (Nat.le_of_ble_eq_true rfl) (by decide) ?_
              intro v' h' hp
              obtain ⟨rfl, w1, rfl, nt⟩ := hp
              have hS1 : HS M N (hv h 15) (w1 7) (w1 8) := hS.mv (fun y _ => nt.r0 (by decide) (by decide)) (fun y _ => nt.r0 (by decide) (by decide))
              refine g_aload_n d_X7_again_46 rfl ?_
              refine h_getR d_X7_again_47 fl_7_31 sp_M rfl ?_
              refine g_bipush d_X7_again_50 bk_30 ?_
              refine g_iload_n d_X7_again_52 rfl ?_
              refine g_iadd d_X7_again_53 ?_
              refine g_iconst d_X7_again_54 ik_0 ?_
              refine mm_astE (k := (30 + l)) d_X7_again_55 (j := 8) sp_m_s rfl (by decide) (nAdd rfl rfl) (by omega) (by decide) ?_
              refine g_aload_n d_X7_again_56 rfl ?_
              refine h_getR d_X7_again_57 fl_7_31 sp_M rfl ?_
              refine g_bipush d_X7_again_60 bk_18 ?_
              refine g_iload_n d_X7_again_62 rfl ?_
              refine g_iadd d_X7_again_63 ?_
              refine g_iload_n d_X7_again_64 rfl ?_
              refine mm_astE (k := (18 + l)) d_X7_again_65 (j := 8) sp_m_s rfl (by decide) (nAdd rfl rfl) (by omega) (by decide) ?_
              refine g_aload_n d_X7_again_66 rfl ?_
              refine h_getR d_X7_again_67 fl_7_31 sp_M rfl ?_
              refine g_bipush d_X7_again_70 bk_36 ?_
              refine g_iload_n d_X7_again_72 rfl ?_
              refine g_iadd d_X7_again_73 ?_
              refine g_iconst d_X7_again_74 ik_0 ?_
              refine mm_astE (k := (36 + l)) d_X7_again_75 (j := 8) sp_m_s rfl (by decide) (nAdd rfl rfl) (by omega) (by decide) ?_
              have hS2 := hS1.again hl k35 hu1 (show u ≤ 9 by omega)
              have hr2 : Rep0 M N (dirtS (hv h 15) l (nI u)) (hset (hset (hset w1 8 (30 + l) 0) 8 (18 + l) (nI u)) 8 (36 + l) 0) 7 8 := (hS2.mv (fun y _ => by rw [hs_j (by decide), hs_j (by decide), hs_j (by decide)]) (fun _ _ => rfl)).2.1
              have w71 : (hset (hset (hset w1 8 (30 + l) 0) 8 (18 + l) (nI u)) 8 (36 + l) 0) 7 1 = nI N := by rw [hs_j (by decide), hs_j (by decide), hs_j (by decide), nt.r0 (by decide) (by decide)]; exact wN
              refine g_aload_n d_X7_again_76 rfl ?_
              refine g_aload_n d_X7_again_77 rfl ?_
              refine h_getR d_X7_again_78 fl_7_31 sp_M rfl ?_
              refine g_iconst d_X7_again_81 ik_0 ?_
              refine h_V2i d_X7_again_82 cl_7_191 (m7_howAll ar_s hr2 hN6 w71) sp_M (by decide) rfl (Nat.le_of_ble_eq_true rfl) (by decide) ?_
              refine h_iret d_X7_again_85 rfl ?_
              exact ⟨rfl, act_end hR hi0 hA hS nt (fun x y h1 => by rw [hs_j h1, hs_j h1, hs_j h1]) (hS2)⟩
            · exfalso
              simp only [b2i_eq0, b2i_ne0, Int32.lt_iff_toInt_lt, Int32.le_iff_toInt_le, t_0, t_1, t_2, t_3, t_4, t_5, t_6, t_7, t_8, t_9, t_10, t_11, t_12, t_20, t_24, t_40, t_50, t_60, t_99, t_110, t_255, t_999, t_999999, t_m1, el, eu, gM, gN, eM, eN, eM1, eN1] at *
              omega
        · refine g_ldc d_X6_again_38 kc_X6_141 ?_
          refine h_iret d_X6_again_40 rfl ?_
          refine ⟨_, rfl, ?_⟩
          rw [← mu_15]
          refine MtH.of [some (.ref 360), some (.int (nI l)), some (.int (nI u))] pl_X7 rfl rfl ?_
          refine g_aload_n d_X7_again_0 rfl ?_
          refine g_iconst d_X7_again_1 ik_0 ?_
          refine mm_putI d_X7_again_2 fl_7_62 sp_M rfl ?_
          refine g_aload_n d_X7_again_5 rfl ?_
          refine g_iload_n d_X7_again_6 rfl ?_
          refine h_V1i d_X7_again_7 cl_7_204 (m7_isLoad ((hs_j (by decide)).trans wN)) sp_M (by decide) rfl (Nat.le_of_ble_eq_true rfl) (by decide) ?_
          refine g_if_eq d_X7_again_10 (fun c10 => ?_) (fun c10 => ?_)
          · exfalso
            simp only [b2i_eq0, b2i_ne0, Int32.lt_iff_toInt_lt, Int32.le_iff_toInt_le, t_0, t_1, t_2, t_3, t_4, t_5, t_6, t_7, t_8, t_9, t_10, t_11, t_12, t_20, t_24, t_40, t_50, t_60, t_99, t_110, t_255, t_999, t_999999, t_m1, el, eu, gM, gN, eM, eN, eM1, eN1] at *
            omega
          · refine g_iload_n d_X7_again_13 rfl ?_
            refine g_iconst d_X7_again_14 ik_1 ?_
            refine g_bipush d_X7_again_15 bk_9 ?_
            refine h_S3i d_X7_again_17 cl_7_70 m7_in (Nat.le_of_ble_eq_true rfl) (by decide) ?_
            refine g_if_ne d_X7_again_20 (fun c20 => ?_) (fun c20 => ?_)
            · refine g_aload_n d_X7_again_26 rfl ?_
              refine h_getR d_X7_again_27 fl_7_31 sp_M rfl ?_
              refine g_bipush d_X7_again_30 bk_30 ?_
              refine g_iload_n d_X7_again_32 rfl ?_
              refine g_iadd d_X7_again_33 ?_
              refine mm_aldV (k := (30 + l)) (v := hv h 15 9 l) d_X7_again_34 (j := 8) sp_m_s rfl (by decide) (nAdd rfl rfl) (by omega) (by decide) ((hs_j (by decide)).trans (hS.2.1.2.2 l hl).2.2.1.symm) ?_
              refine g_iconst d_X7_again_35 ik_2 ?_
              refine g_icmp_eq d_X7_again_36 (fun c36 => absurd c36 c35) (fun c36 => ?_)
              refine g_ldc d_X7_again_39 kc_X7_194 ?_
              refine h_iret d_X7_again_41 rfl ?_
              exact ⟨rfl, _, _, rfl, hR.fr fr_thrown⟩
            · exfalso
              simp only [b2i_eq0, b2i_ne0, Int32.lt_iff_toInt_lt, Int32.le_iff_toInt_le, t_0, t_1, t_2, t_3, t_4, t_5, t_6, t_7, t_8, t_9, t_10, t_11, t_12, t_20, t_24, t_40, t_50, t_60, t_99, t_110, t_255, t_999, t_999999, t_m1, el, eu, gM, gN, eM, eN, eM1, eN1] at *
              omega
      · refine g_ldc d_X6_again_22 kc_X6_66 ?_
        refine h_iret d_X6_again_24 rfl ?_
        refine ⟨_, rfl, ?_⟩
        rw [← mu_15]
        refine MtH.of [some (.ref 360), some (.int x), some (.int y)] pl_X7 rfl rfl ?_
        refine g_aload_n d_X7_again_0 rfl ?_
        refine g_iconst d_X7_again_1 ik_0 ?_
        refine mm_putI d_X7_again_2 fl_7_62 sp_M rfl ?_
        refine g_aload_n d_X7_again_5 rfl ?_
        refine g_iload_n d_X7_again_6 rfl ?_
        refine h_V1i d_X7_again_7 cl_7_204 (m7_isLoad ((hs_j (by decide)).trans wN)) sp_M (by decide) rfl (Nat.le_of_ble_eq_true rfl) (by decide) ?_
        refine g_if_eq d_X7_again_10 (fun c10 => ?_) (fun c10 => ?_)
        · refine g_ldc d_X7_again_23 kc_X7_78 ?_
          refine h_iret d_X7_again_25 rfl ?_
          exact ⟨rfl, _, _, rfl, hR.fr fr_thrown⟩
        · refine g_iload_n d_X7_again_13 rfl ?_
          refine g_iconst d_X7_again_14 ik_1 ?_
          refine g_bipush d_X7_again_15 bk_9 ?_
          refine h_S3i d_X7_again_17 cl_7_70 m7_in (Nat.le_of_ble_eq_true rfl) (by decide) ?_
          refine g_if_ne d_X7_again_20 (fun c20 => ?_) (fun c20 => ?_)
          · exfalso
            simp only [b2i_eq0, b2i_ne0, Int32.lt_iff_toInt_lt, Int32.le_iff_toInt_le, t_0, t_1, t_2, t_3, t_4, t_5, t_6, t_7, t_8, t_9, t_10, t_11, t_12, t_20, t_24, t_40, t_50, t_60, t_99, t_110, t_255, t_999, t_999999, t_m1, gM, gN, eM, eN, eM1, eN1] at *
            omega
          · refine g_ldc d_X7_again_23 kc_X7_78 ?_
            refine h_iret d_X7_again_25 rfl ?_
            exact ⟨rfl, _, _, rfl, hR.fr fr_thrown⟩

/-! ORDERS: one tried, the best found -/
def rnk (g : Hv) (l : List Nat) : Hv := fun x y => if x = 11 ∧ y < 6 then nI (l.getD y 0) else g x y
theorem rnk_j {g : Hv} {l : List Nat} {x y : Nat} (hx : x ≠ 11) : rnk g l x y = g x y := by
  unfold rnk
  rw [if_neg (fun z => hx z.1)]
theorem HI.rnk {M N : Nat} {g : Hv} (h : HI M N g) {l : List Nat} (hl : ∀ i, i < N → l.getD i 0 < N) : HI M N (rnk g l) := by
  have ej : ∀ x q, x ≠ 11 → Jvm.Pilot.@@N@@.rnk g l x q = g x q := fun x q hx => rnk_j hx
  refine ⟨h.1, ⟨?_, ?_⟩, fun q hq => ?_, fun q hq => ?_, fun q hq => ?_, fun q hq => ?_, fun q hq => ?_, ?_, ?_⟩
  · rw [ej _ _ (by decide)]; exact h.hM
  · rw [ej _ _ (by decide)]; exact h.hN
  · rw [ej 4 _ (by decide), ej 5 _ (by decide)]
    rcases h.hold q hq with z | ⟨a, t, z⟩
    · exact Or.inl z
    · exact Or.inr ⟨a, t, by rw [ej 9 _ (by decide)]; exact z⟩
  · rw [ej 9 _ (by decide)]
    rcases h.how q hq with z | z | z | ⟨k, z⟩
    · exact Or.inl z
    · exact Or.inr (Or.inl z)
    · exact Or.inr (Or.inr (Or.inl z))
    · exact Or.inr (Or.inr (Or.inr ⟨k, by rw [ej 4 _ (by decide)]; exact z⟩))
  · rw [ej 1 _ (by decide), ej 2 _ (by decide), ej 3 _ (by decide), ej 6 _ (by decide)]; exact h.mach q hq
  · rw [ej 7 _ (by decide), ej 8 _ (by decide)]; exact h.load q hq
  · refine ⟨l.getD q 0, hl q hq, ?_⟩
    have := h.hN6
    unfold Jvm.Pilot.@@N@@.rnk
    rw [if_pos ⟨rfl, by omega⟩]
  · rw [ej 0 _ (by decide)]; exact h.opn
  · rw [ej 0 _ (by decide)]; exact h.pow
def lf (l : List Nat) : Nat → Int32 := fun y => nI (l.getD y 0)
def setF (h : Hv) (a : Nat) (f : Nat → Int32) : Hv := fun x y => if x = a ∧ y < 6 then f y else h x y
theorem setR_F {h : Hv} {a : Nat} {l : List Nat} : setR h a l = setF h a (lf l) := rfl
theorem setF_ne {h : Hv} {a x k : Nat} {f : Nat → Int32} (hx : x ≠ a) : setF h a f x k = h x k := by
  unfold setF
  rw [if_neg (fun z => hx z.1)]
def ordH (h : Hv) (l : List Nat) (b d : Int32) (bs : Nat → Int32) (w : Hv) : Hv := pu (setR (setF (hset (hset h 330 1 b) 330 2 d) 331 bs) 332 l) 27 w
theorem ordH_o {h : Hv} {l : List Nat} {b d : Int32} {bs : Nat → Int32} {w : Hv} {x y : Nat} (h1 : x < 27 ∨ 39 ≤ x) (h2 : x ≠ 330) (h3 : x ≠ 331) (h4 : x ≠ 332) : ordH h l b d bs w x y = h x y := by
  unfold ordH
  rw [show pu (setR (setF (hset (hset h 330 1 b) 330 2 d) 331 bs) 332 l) 27 w x y = setR (setF (hset (hset h 330 1 b) 330 2 d) 331 bs) 332 l x y from blk_out (by omega), setR_ne h4, setF_ne h3, hs_j h2, hs_j h2]
theorem ordH_1 {h : Hv} {l : List Nat} {b d : Int32} {bs : Nat → Int32} {w : Hv} : ordH h l b d bs w 330 1 = b := by
  unfold ordH
  rw [show pu (setR (setF (hset (hset h 330 1 b) 330 2 d) 331 bs) 332 l) 27 w 330 1 = setR (setF (hset (hset h 330 1 b) 330 2 d) 331 bs) 332 l 330 1 from blk_out (by omega), setR_ne (by decide), setF_ne (by decide), hs_b (by decide), hs_at]
theorem ordH_2 {h : Hv} {l : List Nat} {b d : Int32} {bs : Nat → Int32} {w : Hv} : ordH h l b d bs w 330 2 = d := by
  unfold ordH
  rw [show pu (setR (setF (hset (hset h 330 1 b) 330 2 d) 331 bs) 332 l) 27 w 330 2 = setR (setF (hset (hset h 330 1 b) 330 2 d) 331 bs) 332 l 330 2 from blk_out (by omega), setR_ne (by decide), setF_ne (by decide), hs_at]
theorem ordH_3 {h : Hv} {l : List Nat} {b d : Int32} {bs : Nat → Int32} {w : Hv} : ordH h l b d bs w 330 3 = h 330 3 := by
  unfold ordH
  rw [show pu (setR (setF (hset (hset h 330 1 b) 330 2 d) 331 bs) 332 l) 27 w 330 3 = setR (setF (hset (hset h 330 1 b) 330 2 d) 331 bs) 332 l 330 3 from blk_out (by omega), setR_ne (by decide), setF_ne (by decide), hs_b (by decide), hs_b (by decide)]
theorem pu_setF {h w : Hv} {a : Nat} {f : Nat → Int32} (ha : a < 27 ∨ 39 ≤ a) : setF (pu h 27 w) a f = pu (setF h a f) 27 w := by
  funext x y
  unfold setF pu blk
  dsimp only
  by_cases hx : 27 ≤ x ∧ x < 27 + 12
  · rw [if_neg (fun z => by have := z.1; omega), if_pos hx, if_pos hx]
  · rw [if_neg hx, if_neg hx]
theorem setF_setF {h : Hv} {a : Nat} {f f' : Nat → Int32} : setF (setF h a f) a f' = setF h a f' := by
  funext x y
  unfold setF
  split <;> rfl
theorem setF_comm {h : Hv} {a b : Nat} {f f' : Nat → Int32} (hab : a ≠ b) : setF (setF h a f) b f' = setF (setF h b f') a f := by
  funext x y
  unfold setF
  by_cases h1 : x = b ∧ y < 6
  · rw [if_pos h1, if_neg (fun z => hab (by rw [← z.1, ← h1.1])), if_pos h1]
  · rw [if_neg h1]
    by_cases h2 : x = a ∧ y < 6
    · rw [if_pos h2, if_pos h2]
    · rw [if_neg h2, if_neg h2, if_neg h1]
theorem hs_setF {h : Hv} {a x y : Nat} {f : Nat → Int32} {v : Int32} (hx : x ≠ a) : hset (setF h a f) x y v = setF (hset h x y v) a f := by
  funext p q
  unfold hset setF
  dsimp only
  by_cases h1 : p = x ∧ q = y
  · rw [if_pos h1, if_neg (fun z => hx (by rw [← h1.1, ← z.1])), if_pos h1]
  · rw [if_neg h1]
    by_cases h2 : p = a ∧ q < 6
    · rw [if_pos h2, if_pos h2]
    · rw [if_neg h2, if_neg h2, if_neg h1]
theorem hs_pu {h w : Hv} {o x y : Nat} {v : Int32} (hx : x < o ∨ o + 12 ≤ x) : hset (pu h o w) x y v = pu (hset h x y v) o w := by
  funext p q
  unfold hset pu blk
  dsimp only
  by_cases h1 : o ≤ p ∧ p < o + 12
  · rw [if_neg (fun z => by have := z.1; omega), if_pos h1, if_pos h1]
  · rw [if_neg h1, if_neg h1]
theorem hs_comm {h : Hv} {a b x y : Nat} {v w : Int32} (hn : ¬ (a = x ∧ b = y)) : hset (hset h a b v) x y w = hset (hset h x y w) a b v := by
  funext p q
  unfold hset
  by_cases h1 : p = x ∧ q = y
  · rw [if_pos h1, if_neg (fun z => hn ⟨by rw [← z.1, h1.1], by rw [← z.2, h1.2]⟩), if_pos h1]
  · rw [if_neg h1]
    by_cases h2 : p = a ∧ q = b
    · rw [if_pos h2, if_pos h2]
    · rw [if_neg h2, if_neg h2, if_neg h1]
theorem ordH_s1 {h : Hv} {l : List Nat} {b b' d : Int32} {bs : Nat → Int32} {w : Hv} : hset (ordH h l b d bs w) 330 1 b' = ordH h l b' d bs w := by
  unfold ordH
  rw [setR_F, hs_pu (by omega), hs_setF (by decide), hs_setF (by decide), hs_comm (by decide), hs_hs, ← setR_F]
theorem ordH_s2 {h : Hv} {l : List Nat} {b d d' : Int32} {bs : Nat → Int32} {w : Hv} : hset (ordH h l b d bs w) 330 2 d' = ordH h l b d' bs w := by
  unfold ordH
  rw [setR_F, hs_pu (by omega), hs_setF (by decide), hs_setF (by decide), hs_hs, ← setR_F]
theorem ordH_best {h : Hv} {l : List Nat} {b d : Int32} {bs : Nat → Int32} {w : Hv} : hcpy (ordH h l b d bs w) 332 331 0 0 6 = ordH h l b d (lf l) w := by
  have e : hcpy (ordH h l b d bs w) 332 331 0 0 6 = setF (ordH h l b d bs w) 331 (lf l) := by
    funext x y
    unfold hcpy
    by_cases hx : x = 331 ∧ y < 6
    · rw [if_pos ⟨hx.1, by omega, by omega⟩]
      unfold setF
      rw [if_pos hx]
      unfold ordH
      rw [show pu (setR (setF (hset (hset h 330 1 b) 330 2 d) 331 bs) 332 l) 27 w 332 (0 + (y - 0)) = setR (setF (hset (hset h 330 1 b) 330 2 d) 331 bs) 332 l 332 (0 + (y - 0)) from blk_out (by omega), Nat.zero_add, Nat.sub_zero, setR_at hx.2]
      rfl
    · rw [if_neg (fun z => hx ⟨z.1, by omega⟩)]
      unfold setF
      rw [if_neg hx]
  rw [e]
  unfold ordH
  rw [setR_F, pu_setF (by omega), setF_comm (by decide), setF_setF]
  rfl
theorem ordH_tried {h : Hv} {l : List Nat} {b d : Int32} {bs : Nat → Int32} {w : Hv} : ordH h l b d bs w = setR (pu (setF (hset (hset h 330 1 b) 330 2 d) 331 bs) 27 w) 332 l := by
  unfold ordH
  rw [setR_F, setR_F, pu_setF (by omega)]
theorem hh_copyR {M : Meth} {d pc pc' : Nat} {L : List (Option Value)} {st : List Value} {h g : Hv} {P : Option Value → Hv → Prop} {idx o a j n : Nat} {n' : Int32} (hd : Dc M.2.1 pc (.invokestatic idx) 3 pc') (hc : ACopy M.1.cls idx) (ha : SP[a]? = some (8, List.replicate n none)) (hb : SP[o + j]? = some (8, List.replicate n none)) (hap : a < o ∨ o + 12 ≤ a) (hj : j < 12) (hn : n' = nI n) (hn2 : n < 100) (hd1 : 1 ≤ d) (hst : (st.map fun v => v.category).sum ≤ 8)
    (k : GdH M d pc' L st (pu h o (fun x y => if x = j ∧ y < n then h a y else g x y)) P) : GdH M d pc L (.int n' :: .int 0 :: .ref (o + j) :: .int 0 :: .ref a :: st) (pu h o g) P := by
  subst hn
  have hcl : (nI n).toNatClampNeg = n := nI_clamp (by omega)
  have h0 : (0 : Int32).toNatClampNeg = 0 := by decide
  refine h_copy hd hc ha hb (by decide) (by decide) (nI_pos (by omega)) (by rw [hcl, h0]; omega) (by rw [hcl, h0]; omega) hd1 hst ?_
  rw [hcl, h0, blk_cpy (fun i hi => by omega) hj]
  exact k
/-- whether one that is tried is better -/
abbrev betS (f late b dry d : Int32) : Prop := ¬ f = 0 ∨ late < b ∨ (late = b ∧ ¬ dry ≤ d)
theorem m_tryOne {h : Hv} {M N : Nat} (hI : HI M N (vw h 15)) {l : List Nat} {bs : Nat → Int32} (hl : ordL l) (hlN : ∀ i, i < N → l.getD i 0 < N) {b d : Int32} {w : Hv} {z f : Int32} {n : Nat} (ez : z = nI n) (hn : n < 2 ^ 30) : MtH M_X3_tryOne 5 [.ref 330, .ref 15, .ref 27, .int z, .int f] (ordH h l b d bs w) (fun v' h' => v' = none ∧ ((betS f (lateAllS (tickN M N n (rnk (vw h 15) l)) N) b (nI (cntS (tickN M N n (rnk (vw h 15) l)) 2 N)) d ∧ h' = ordH h l (lateAllS (tickN M N n (rnk (vw h 15) l)) N) (nI (cntS (tickN M N n (rnk (vw h 15) l)) 2 N)) (lf l) (tickN M N n (rnk (vw h 15) l))) ∨ (¬ betS f (lateAllS (tickN M N n (rnk (vw h 15) l)) N) b (nI (cntS (tickN M N n (rnk (vw h 15) l)) 2 N)) d ∧ h' = ordH h l b d bs (tickN M N n (rnk (vw h 15) l))))) := by
  subst ez
  refine MtH.of [some (.ref 330), some (.ref 15), some (.ref 27), some (.int (nI n)), some (.int f), none, none] pl_X3 rfl rfl ?_
  refine g_aload_n d_X3_tryOne_0 rfl ?_
  refine g_aload_n d_X3_tryOne_1 rfl ?_
  refine h_V1v d_X3_tryOne_2 cl_3_54 (m_become hall_27 hall_15 (by decide)) (sp_hall hall_27) (by decide) rfl (Nat.le_of_ble_eq_true rfl) (by decide) ?_
  have hIr := hI.rnk hlN
  have hIt := hIr.tickN n
  have e1 : pu (ordH h l b d bs w) 27 (vw (ordH h l b d bs w) 15) = pu (setR (setF (hset (hset h 330 1 b) 330 2 d) 331 bs) 332 l) 27 (vw h 15) := by
    unfold ordH
    rw [pu_pu]
    exact pu_ext (fun j y hj => ordH_o (by omega) (by omega) (by omega) (by omega))
  rw [e1]
  refine g_aload_n d_X3_tryOne_5 rfl ?_
  refine h_getR d_X3_tryOne_6 fl_3_15 sp_Orders rfl ?_
  refine g_iconst d_X3_tryOne_9 ik_0 ?_
  refine g_aload_n d_X3_tryOne_10 rfl ?_
  refine h_getR d_X3_tryOne_11 fl_3_22 (sp_hall hall_27) rfl ?_
  refine g_iconst d_X3_tryOne_14 ik_0 ?_
  refine g_bipush d_X3_tryOne_15 bk_6 ?_
  refine hh_copyR (j := 11) (n := 6) d_X3_tryOne_17 ac_3_27 sp_tried (sp_h11 hall_27) (by decide) (by decide) rfl (by decide) (by decide) (Nat.le_of_ble_eq_true rfl) ?_
  have e2 : pu (setR (setF (hset (hset h 330 1 b) 330 2 d) 331 bs) 332 l) 27 (fun x y => if x = 11 ∧ y < 6 then (setR (setF (hset (hset h 330 1 b) 330 2 d) 331 bs) 332 l) 332 y else (vw h 15) x y) = pu (setR (setF (hset (hset h 330 1 b) 330 2 d) 331 bs) 332 l) 27 (rnk (vw h 15) l) := pu_ext (fun j y hj => by
    unfold rnk
    by_cases hx : j = 11 ∧ y < 6
    · rw [if_pos hx, if_pos hx, setR_at hx.2]
    · rw [if_neg hx, if_neg hx])
  rw [e2]
  refine g_aload_n d_X3_tryOne_20 rfl ?_
  refine g_iload_n d_X3_tryOne_21 rfl ?_
  refine h_V1v d_X3_tryOne_22 cl_3_58 (m_passTicks hall_27 hIr rfl hn) (sp_hall hall_27) (by decide) rfl (Nat.le_of_ble_eq_true rfl) (by decide) ?_
  refine g_aload_n d_X3_tryOne_25 rfl ?_
  refine h_V0i d_X3_tryOne_26 cl_3_37 (m_lateOfAll hall_27 hIt.hN hIt.hN6) (sp_hall hall_27) (by decide) rfl (Nat.le_of_ble_eq_true rfl) (by decide) ?_
  refine w_istore (L' := [_, _, _, _, _, _, _]) d_X3_tryOne_29 rfl rfl rfl ?_
  refine g_aload_n d_X3_tryOne_31 rfl ?_
  refine g_iconst d_X3_tryOne_32 ik_2 ?_
  refine h_V1i d_X3_tryOne_33 cl_3_62 (m_howManyAre hall_27 hIt.hN hIt.hN6) (sp_hall hall_27) (by decide) rfl (Nat.le_of_ble_eq_true rfl) (by decide) ?_
  refine w_istore (L' := [_, _, _, _, _, _, _]) d_X3_tryOne_36 rfl rfl rfl ?_
  show GdH M_X3_tryOne 5 38 _ [] (ordH h l b d bs (tickN M N n (rnk (vw h 15) l))) _
  refine g_iload d_X3_tryOne_38 rfl ?_
  refine g_if_ne d_X3_tryOne_40 (fun c40 => ?_) (fun c40 => ?_)
  · refine g_aload_n d_X3_tryOne_70 rfl ?_
    refine g_iload d_X3_tryOne_71 rfl ?_
    refine h_putI d_X3_tryOne_73 fl_3_41 sp_Orders rfl ?_
    rw [ordH_s1]
    refine g_aload_n d_X3_tryOne_76 rfl ?_
    refine g_iload d_X3_tryOne_77 rfl ?_
    refine h_putI d_X3_tryOne_79 fl_3_44 sp_Orders rfl ?_
    rw [ordH_s2]
    refine g_aload_n d_X3_tryOne_82 rfl ?_
    refine h_getR d_X3_tryOne_83 fl_3_15 sp_Orders rfl ?_
    refine g_iconst d_X3_tryOne_86 ik_0 ?_
    refine g_aload_n d_X3_tryOne_87 rfl ?_
    refine h_getR d_X3_tryOne_88 fl_3_9 sp_Orders rfl ?_
    refine g_iconst d_X3_tryOne_91 ik_0 ?_
    refine g_bipush d_X3_tryOne_92 bk_6 ?_
    refine h_copy d_X3_tryOne_94 ac_3_27 sp_tried sp_best (by decide) (by decide) (by decide) (by decide) (by decide) (by decide) (Nat.le_of_ble_eq_true rfl) ?_
    rw [show (0 : Int32).toNatClampNeg = 0 from by decide, show (6 : Int32).toNatClampNeg = 6 from by decide, ordH_best]
    refine h_vret d_X3_tryOne_97 rfl ?_
    first | exact ⟨rfl, Or.inl ⟨Or.inl c40, rfl⟩⟩ | exact ⟨rfl, Or.inl ⟨Or.inr (Or.inl c49), rfl⟩⟩ | exact ⟨rfl, Or.inl ⟨Or.inr (Or.inr ⟨c58, c67⟩), rfl⟩⟩ | exact ⟨rfl, Or.inr ⟨fun q => q.elim (fun q => q c40) (fun q => q.elim (fun q => c49 q) (fun q => c58 q.1)), rfl⟩⟩ | exact ⟨rfl, Or.inr ⟨fun q => q.elim (fun q => q c40) (fun q => q.elim (fun q => c49 q) (fun q => q.2 c67)), rfl⟩⟩
  · refine g_iload d_X3_tryOne_43 rfl ?_
    refine g_aload_n d_X3_tryOne_45 rfl ?_
    refine h_getV (v := b) d_X3_tryOne_46 fl_3_41 sp_Orders rfl (ordH_1) ?_
    refine g_icmp_lt d_X3_tryOne_49 (fun c49 => ?_) (fun c49 => ?_)
    · refine g_aload_n d_X3_tryOne_70 rfl ?_
      refine g_iload d_X3_tryOne_71 rfl ?_
      refine h_putI d_X3_tryOne_73 fl_3_41 sp_Orders rfl ?_
      rw [ordH_s1]
      refine g_aload_n d_X3_tryOne_76 rfl ?_
      refine g_iload d_X3_tryOne_77 rfl ?_
      refine h_putI d_X3_tryOne_79 fl_3_44 sp_Orders rfl ?_
      rw [ordH_s2]
      refine g_aload_n d_X3_tryOne_82 rfl ?_
      refine h_getR d_X3_tryOne_83 fl_3_15 sp_Orders rfl ?_
      refine g_iconst d_X3_tryOne_86 ik_0 ?_
      refine g_aload_n d_X3_tryOne_87 rfl ?_
      refine h_getR d_X3_tryOne_88 fl_3_9 sp_Orders rfl ?_
      refine g_iconst d_X3_tryOne_91 ik_0 ?_
      refine g_bipush d_X3_tryOne_92 bk_6 ?_
      refine h_copy d_X3_tryOne_94 ac_3_27 sp_tried sp_best (by decide) (by decide) (by decide) (by decide) (by decide) (by decide) (Nat.le_of_ble_eq_true rfl) ?_
      rw [show (0 : Int32).toNatClampNeg = 0 from by decide, show (6 : Int32).toNatClampNeg = 6 from by decide, ordH_best]
      refine h_vret d_X3_tryOne_97 rfl ?_
      first | exact ⟨rfl, Or.inl ⟨Or.inl c40, rfl⟩⟩ | exact ⟨rfl, Or.inl ⟨Or.inr (Or.inl c49), rfl⟩⟩ | exact ⟨rfl, Or.inl ⟨Or.inr (Or.inr ⟨c58, c67⟩), rfl⟩⟩ | exact ⟨rfl, Or.inr ⟨fun q => q.elim (fun q => q c40) (fun q => q.elim (fun q => c49 q) (fun q => c58 q.1)), rfl⟩⟩ | exact ⟨rfl, Or.inr ⟨fun q => q.elim (fun q => q c40) (fun q => q.elim (fun q => c49 q) (fun q => q.2 c67)), rfl⟩⟩
    · refine g_iload d_X3_tryOne_52 rfl ?_
      refine g_aload_n d_X3_tryOne_54 rfl ?_
      refine h_getV (v := b) d_X3_tryOne_55 fl_3_41 sp_Orders rfl (ordH_1) ?_
      refine g_icmp_ne d_X3_tryOne_58 (fun c58 => ?_) (fun c58 => ?_)
      · refine h_vret d_X3_tryOne_97 rfl ?_
        first | exact ⟨rfl, Or.inl ⟨Or.inl c40, rfl⟩⟩ | exact ⟨rfl, Or.inl ⟨Or.inr (Or.inl c49), rfl⟩⟩ | exact ⟨rfl, Or.inl ⟨Or.inr (Or.inr ⟨c58, c67⟩), rfl⟩⟩ | exact ⟨rfl, Or.inr ⟨fun q => q.elim (fun q => q c40) (fun q => q.elim (fun q => c49 q) (fun q => c58 q.1)), rfl⟩⟩ | exact ⟨rfl, Or.inr ⟨fun q => q.elim (fun q => q c40) (fun q => q.elim (fun q => c49 q) (fun q => q.2 c67)), rfl⟩⟩
      · refine g_iload d_X3_tryOne_61 rfl ?_
        refine g_aload_n d_X3_tryOne_63 rfl ?_
        refine h_getV (v := d) d_X3_tryOne_64 fl_3_44 sp_Orders rfl (ordH_2) ?_
        refine g_icmp_le d_X3_tryOne_67 (fun c67 => ?_) (fun c67 => ?_)
        · refine h_vret d_X3_tryOne_97 rfl ?_
          first | exact ⟨rfl, Or.inl ⟨Or.inl c40, rfl⟩⟩ | exact ⟨rfl, Or.inl ⟨Or.inr (Or.inl c49), rfl⟩⟩ | exact ⟨rfl, Or.inl ⟨Or.inr (Or.inr ⟨c58, c67⟩), rfl⟩⟩ | exact ⟨rfl, Or.inr ⟨fun q => q.elim (fun q => q c40) (fun q => q.elim (fun q => c49 q) (fun q => c58 q.1)), rfl⟩⟩ | exact ⟨rfl, Or.inr ⟨fun q => q.elim (fun q => q c40) (fun q => q.elim (fun q => c49 q) (fun q => q.2 c67)), rfl⟩⟩
        · refine g_aload_n d_X3_tryOne_70 rfl ?_
          refine g_iload d_X3_tryOne_71 rfl ?_
          refine h_putI d_X3_tryOne_73 fl_3_41 sp_Orders rfl ?_
          rw [ordH_s1]
          refine g_aload_n d_X3_tryOne_76 rfl ?_
          refine g_iload d_X3_tryOne_77 rfl ?_
          refine h_putI d_X3_tryOne_79 fl_3_44 sp_Orders rfl ?_
          rw [ordH_s2]
          refine g_aload_n d_X3_tryOne_82 rfl ?_
          refine h_getR d_X3_tryOne_83 fl_3_15 sp_Orders rfl ?_
          refine g_iconst d_X3_tryOne_86 ik_0 ?_
          refine g_aload_n d_X3_tryOne_87 rfl ?_
          refine h_getR d_X3_tryOne_88 fl_3_9 sp_Orders rfl ?_
          refine g_iconst d_X3_tryOne_91 ik_0 ?_
          refine g_bipush d_X3_tryOne_92 bk_6 ?_
          refine h_copy d_X3_tryOne_94 ac_3_27 sp_tried sp_best (by decide) (by decide) (by decide) (by decide) (by decide) (by decide) (Nat.le_of_ble_eq_true rfl) ?_
          rw [show (0 : Int32).toNatClampNeg = 0 from by decide, show (6 : Int32).toNatClampNeg = 6 from by decide, ordH_best]
          refine h_vret d_X3_tryOne_97 rfl ?_
          first | exact ⟨rfl, Or.inl ⟨Or.inl c40, rfl⟩⟩ | exact ⟨rfl, Or.inl ⟨Or.inr (Or.inl c49), rfl⟩⟩ | exact ⟨rfl, Or.inl ⟨Or.inr (Or.inr ⟨c58, c67⟩), rfl⟩⟩ | exact ⟨rfl, Or.inr ⟨fun q => q.elim (fun q => q c40) (fun q => q.elim (fun q => c49 q) (fun q => c58 q.1)), rfl⟩⟩ | exact ⟨rfl, Or.inr ⟨fun q => q.elim (fun q => q c40) (fun q => q.elim (fun q => c49 q) (fun q => q.2 c67)), rfl⟩⟩
/-! the search -/
def lateE (g : Hv) (M N n : Nat) (l : List Nat) : Int32 := lateAllS (tickN M N n (rnk g l)) N
def dryE (g : Hv) (M N n : Nat) (l : List Nat) : Int32 := nI (cntS (tickN M N n (rnk g l)) 2 N)
def trS (g : Hv) (M N n : Nat) (f : Int32) (l : List Nat) (s : Int32 × Int32 × (Nat → Int32)) : Int32 × Int32 × (Nat → Int32) := if betS f (lateE g M N n l) s.1 (dryE g M N n l) s.2.1 then (lateE g M N n l, dryE g M N n l, lf l) else s
def scF (g : Hv) (M N n : Nat) (least : Int32) : Nat → List Nat → Int32 × Int32 × (Nat → Int32) → Int32 × Int32 × (Nat → Int32)
  | 0, _, s => s
  | f + 1, l, s => if least < s.1 ∨ ¬ nI N ≤ s.2.1 then (match nextL N l with
    | none => s
    | some l' => scF g M N n least f l' (trS g M N n 0 l' s)) else s
theorem tryOne_as {h : Hv} {M N n : Nat} {f b d : Int32} {l : List Nat} {bs : Nat → Int32} {h' : Hv} (q : (betS f (lateAllS (tickN M N n (rnk (vw h 15) l)) N) b (nI (cntS (tickN M N n (rnk (vw h 15) l)) 2 N)) d ∧ h' = ordH h l (lateAllS (tickN M N n (rnk (vw h 15) l)) N) (nI (cntS (tickN M N n (rnk (vw h 15) l)) 2 N)) (lf l) (tickN M N n (rnk (vw h 15) l))) ∨ (¬ betS f (lateAllS (tickN M N n (rnk (vw h 15) l)) N) b (nI (cntS (tickN M N n (rnk (vw h 15) l)) 2 N)) d ∧ h' = ordH h l b d bs (tickN M N n (rnk (vw h 15) l)))) :
    h' = ordH h l (trS (vw h 15) M N n f l (b, d, bs)).1 (trS (vw h 15) M N n f l (b, d, bs)).2.1 (trS (vw h 15) M N n f l (b, d, bs)).2.2 (tickN M N n (rnk (vw h 15) l)) := by
  unfold trS lateE dryE
  rcases q with ⟨c, e⟩ | ⟨c, e⟩
  · rw [if_pos c]
    exact e
  · rw [if_neg c]
    exact e
/-- the orders that come stay within -/
def inN (N : Nat) (l : List Nat) : Prop := ordL l ∧ ∀ i, i < N → l.getD i 0 < N
theorem inN_swap {N : Nat} {l : List Nat} (h : inN N l) (hN : N ≤ 6) {a b : Nat} (ha : a < N) (hb : b < N) : inN N (swapL l a b) := by
  refine ⟨ordL_swap h.1 (by omega) (by omega), fun i hi => ?_⟩
  rw [swapL_get h.1.1 (by omega) (by omega)]
  split
  · exact h.2 a ha
  · split
    · exact h.2 b hb
    · exact h.2 i hi
theorem inN_rev {N : Nat} (hN : N ≤ 6) : ∀ (m a b : Nat) (l : List Nat), inN N l → b < N → inN N (revL m a b l)
  | 0, _, _, _, h, _ => h
  | m + 1, a, b, l, h, hb => by
    rw [revL]
    split
    · exact inN_rev hN m (a + 1) (b - 1) _ (inN_swap h hN (by omega) hb) (by omega)
    · exact h
theorem inN_next {N : Nat} {l l' : List Nat} (h : inN N l) (hN : N ≤ 6) (e : nextL N l = some l') : inN N l' := by
  unfold nextL at e
  cases hd : dscL l (N - 1) with
  | none => rw [hd] at e; cases e
  | some k =>
    rw [hd] at e
    cases e
    have h1 := dscL_lt l _ _ hd
    have h2 := fndL_le l (l.getD k 0) (k + 1) (N - 1)
    exact inN_rev hN 3 _ _ _ (inN_swap h hN (by omega) (by omega)) (by omega)
theorem lp_find {h : Hv} {M N : Nat} (hI : HI M N (vw h 15)) {n : Nat} (hn : n < 2 ^ 30) {least : Int32} : ∀ (F i : Nat), i + F = 720 → ∀ (l : List Nat) (b d : Int32) (bs : Nat → Int32) (w : Hv), inN N l → GdH M_X3_find 6 41 [some (.ref 330), some (.ref 15), some (.ref 27), some (.int (nI n)), some (.int least), some (.int (nI i))] [] (ordH h l b d bs w) (fun v' h' => v' = none ∧ ∃ l' w', h' = hset (ordH h l' (scF (vw h 15) M N n least F l (b, d, bs)).1 (scF (vw h 15) M N n least F l (b, d, bs)).2.1 (scF (vw h 15) M N n least F l (b, d, bs)).2.2 w') 330 3 (nI n)) := by
  intro F
  have hN6 := hI.hN6
  have hLd : ∀ l b d bs w, ordH h l b d bs w 15 3 = nI N := fun l b d bs w => (ordH_o (by decide) (by decide) (by decide) (by decide)).trans hI.hN
  induction F with
  | zero =>
    intro i hi l b d bs w hl
    refine g_iload d_X3_find_41 rfl ?_
    refine g_sipush d_X3_find_43 sk_720 ?_
    refine g_icmp_ge d_X3_find_46 (fun c46 => ?_) (fun c46 => absurd (nI_le (a := 720) (b := i) (by omega) (by omega)) c46)
    refine g_aload_n d_X3_find_97 rfl ?_
    refine g_iload_n d_X3_find_98 rfl ?_
    refine h_putI d_X3_find_99 fl_3_18 sp_Orders rfl ?_
    refine h_vret d_X3_find_102 rfl ?_
    exact ⟨rfl, l, w, rfl⟩
  | succ F ih =>
    intro i hi l b d bs w hl
    refine g_iload d_X3_find_41 rfl ?_
    refine g_sipush d_X3_find_43 sk_720 ?_
    refine g_icmp_ge d_X3_find_46 (fun c46 => absurd c46 (nI_ge (a := i) (b := 720) (by omega) (by omega))) (fun c46 => ?_)
    refine g_aload_n d_X3_find_49 rfl ?_
    refine h_getV (v := b) d_X3_find_50 fl_3_41 sp_Orders rfl (ordH_1) ?_
    refine g_iload d_X3_find_53 rfl ?_
    refine g_icmp_gt d_X3_find_55 (fun c55 => ?_) (fun c55 => ?_)
    · have hcc : least < b ∨ ¬ nI N ≤ d := by first | exact Or.inl c55 | exact Or.inr c66
      refine g_aload_n d_X3_find_69 rfl ?_
      refine g_aload_n d_X3_find_70 rfl ?_
      refine h_getV (v := nI N) d_X3_find_71 fl_3_47 (sp_hall hall_15) rfl (hLd l b d bs w) ?_
      rw [ordH_tried]
      refine h_V1i d_X3_find_74 cl_3_50 (m_toNextOrder hl.1 rfl hI.hN0 hN6 (fun i hi => Nat.lt_of_lt_of_le (hl.2 i hi) hN6)) sp_Orders (by decide) rfl (Nat.le_of_ble_eq_true rfl) (by decide) ?_
      refine g_if_ne d_X3_find_77 (fun c77 => ?_) (fun c77 => ?_)
      · obtain ⟨l2, hl2e⟩ : ∃ l2, nextL N l = some l2 := by
          cases hz : nextL N l with
          | none => exact absurd hz (b2i_ne0.mp c77)
          | some l2 => exact ⟨l2, rfl⟩
        have hl2 := inN_next hl hN6 hl2e
        rw [hl2e, Option.getD_some, ← ordH_tried]
        refine g_aload_n d_X3_find_83 rfl ?_
        refine g_aload_n d_X3_find_84 rfl ?_
        refine g_aload_n d_X3_find_85 rfl ?_
        refine g_iload_n d_X3_find_86 rfl ?_
        refine g_iconst d_X3_find_87 ik_0 ?_
        refine h_V4P d_X3_find_88 cl_3_33 (m_tryOne hI hl2.1 hl2.2 rfl hn) sp_Orders (by decide) rfl (Nat.le_of_ble_eq_true rfl) (by decide) ?_
        rintro v' h' ⟨rfl, hq⟩
        rw [tryOne_as hq]
        refine w_iinc (L' := [_, _, _, _, _, _]) d_X3_find_91 ik_1 rfl rfl rfl rfl ?_
        refine g_goto d_X3_find_94 ?_
        rw [nI_1]
        have q := ih (i + 1) (by omega) l2 (trS (vw h 15) M N n 0 l2 (b, d, bs)).1 (trS (vw h 15) M N n 0 l2 (b, d, bs)).2.1 (trS (vw h 15) M N n 0 l2 (b, d, bs)).2.2 (tickN M N n (rnk (vw h 15) l2)) hl2
        rw [show scF (vw h 15) M N n least (F + 1) l (b, d, bs) = scF (vw h 15) M N n least F l2 (trS (vw h 15) M N n 0 l2 (b, d, bs)) by rw [scF, if_pos hcc, hl2e]]
        exact q
      · refine g_goto d_X3_find_80 ?_
        refine g_aload_n d_X3_find_97 rfl ?_
        refine g_iload_n d_X3_find_98 rfl ?_
        refine h_putI d_X3_find_99 fl_3_18 sp_Orders rfl ?_
        refine h_vret d_X3_find_102 rfl ?_
        first | (refine ⟨rfl, l, w, ?_⟩; rw [scF, if_neg (fun q => q.elim c55 (fun q => q c66))]; done) | (refine ⟨rfl, l, w, ?_⟩; rw [scF, if_pos hcc, Classical.not_not.mp (b2i_eq0.mp c77), ordH_tried]; rfl)
    · refine g_aload_n d_X3_find_58 rfl ?_
      refine h_getV (v := d) d_X3_find_59 fl_3_44 sp_Orders rfl (ordH_2) ?_
      refine g_aload_n d_X3_find_62 rfl ?_
      refine h_getV (v := nI N) d_X3_find_63 fl_3_47 (sp_hall hall_15) rfl (hLd l b d bs w) ?_
      refine g_icmp_ge d_X3_find_66 (fun c66 => ?_) (fun c66 => ?_)
      · refine g_aload_n d_X3_find_97 rfl ?_
        refine g_iload_n d_X3_find_98 rfl ?_
        refine h_putI d_X3_find_99 fl_3_18 sp_Orders rfl ?_
        refine h_vret d_X3_find_102 rfl ?_
        first | (refine ⟨rfl, l, w, ?_⟩; rw [scF, if_neg (fun q => q.elim c55 (fun q => q c66))]; done) | (refine ⟨rfl, l, w, ?_⟩; rw [scF, if_pos hcc, Classical.not_not.mp (b2i_eq0.mp c77), ordH_tried]; rfl)
      · have hcc : least < b ∨ ¬ nI N ≤ d := by first | exact Or.inl c55 | exact Or.inr c66
        refine g_aload_n d_X3_find_69 rfl ?_
        refine g_aload_n d_X3_find_70 rfl ?_
        refine h_getV (v := nI N) d_X3_find_71 fl_3_47 (sp_hall hall_15) rfl (hLd l b d bs w) ?_
        rw [ordH_tried]
        refine h_V1i d_X3_find_74 cl_3_50 (m_toNextOrder hl.1 rfl hI.hN0 hN6 (fun i hi => Nat.lt_of_lt_of_le (hl.2 i hi) hN6)) sp_Orders (by decide) rfl (Nat.le_of_ble_eq_true rfl) (by decide) ?_
        refine g_if_ne d_X3_find_77 (fun c77 => ?_) (fun c77 => ?_)
        · obtain ⟨l2, hl2e⟩ : ∃ l2, nextL N l = some l2 := by
            cases hz : nextL N l with
            | none => exact absurd hz (b2i_ne0.mp c77)
            | some l2 => exact ⟨l2, rfl⟩
          have hl2 := inN_next hl hN6 hl2e
          rw [hl2e, Option.getD_some, ← ordH_tried]
          refine g_aload_n d_X3_find_83 rfl ?_
          refine g_aload_n d_X3_find_84 rfl ?_
          refine g_aload_n d_X3_find_85 rfl ?_
          refine g_iload_n d_X3_find_86 rfl ?_
          refine g_iconst d_X3_find_87 ik_0 ?_
          refine h_V4P d_X3_find_88 cl_3_33 (m_tryOne hI hl2.1 hl2.2 rfl hn) sp_Orders (by decide) rfl (Nat.le_of_ble_eq_true rfl) (by decide) ?_
          rintro v' h' ⟨rfl, hq⟩
          rw [tryOne_as hq]
          refine w_iinc (L' := [_, _, _, _, _, _]) d_X3_find_91 ik_1 rfl rfl rfl rfl ?_
          refine g_goto d_X3_find_94 ?_
          rw [nI_1]
          have q := ih (i + 1) (by omega) l2 (trS (vw h 15) M N n 0 l2 (b, d, bs)).1 (trS (vw h 15) M N n 0 l2 (b, d, bs)).2.1 (trS (vw h 15) M N n 0 l2 (b, d, bs)).2.2 (tickN M N n (rnk (vw h 15) l2)) hl2
          rw [show scF (vw h 15) M N n least (F + 1) l (b, d, bs) = scF (vw h 15) M N n least F l2 (trS (vw h 15) M N n 0 l2 (b, d, bs)) by rw [scF, if_pos hcc, hl2e]]
          exact q
        · refine g_goto d_X3_find_80 ?_
          refine g_aload_n d_X3_find_97 rfl ?_
          refine g_iload_n d_X3_find_98 rfl ?_
          refine h_putI d_X3_find_99 fl_3_18 sp_Orders rfl ?_
          refine h_vret d_X3_find_102 rfl ?_
          first | (refine ⟨rfl, l, w, ?_⟩; rw [scF, if_neg (fun q => q.elim c55 (fun q => q c66))]; done) | (refine ⟨rfl, l, w, ?_⟩; rw [scF, if_pos hcc, Classical.not_not.mp (b2i_eq0.mp c77), ordH_tried]; rfl)
theorem rk_copy {h : Hv} {l : List Nat} (hr : ∀ y, y < 6 → h 26 y = nI (l.getD y 0)) : hcpy h 26 332 0 0 6 = ordH h l (h 330 1) (h 330 2) (h 331) (vw h 27) := by
  rw [ordH_tried]
  have e0 : pu (setF (hset (hset h 330 1 (h 330 1)) 330 2 (h 330 2)) 331 (h 331)) 27 (vw h 27) = h := by
    rw [hs_self]
    have e1 : hset h 330 2 (h 330 2) = h := hs_self
    rw [e1]
    have e2 : setF h 331 (h 331) = h := by
      funext x y
      unfold setF
      split
      · rename_i hx
        rw [hx.1]
      · rfl
    rw [e2, pu_vw]
  rw [e0]
  funext x y
  unfold hcpy setR
  by_cases hx : x = 332 ∧ y < 6
  · rw [if_pos ⟨hx.1, by omega, by omega⟩, if_pos hx, Nat.zero_add, Nat.sub_zero, hr y hx.2]
  · rw [if_neg (fun z => hx ⟨z.1, by omega⟩), if_neg hx]
theorem m_find {h : Hv} {M N : Nat} (hI : HI M N (vw h 15)) {l : List Nat} (hl : inN N l) (hr : ∀ y, y < 6 → h 26 y = nI (l.getD y 0)) {z : Int32} {n : Nat} (ez : z = nI n) (hn : n < 2 ^ 30) : MtH M_X3_find 6 [.ref 330, .ref 15, .ref 27, .int z] h (fun v' h' => v' = none ∧ ((h 330 3 = nI n ∧ h' = h) ∨ (¬ h 330 3 = nI n ∧ ∃ l' w', h' = hset (ordH h l' (scF (vw h 15) M N n (lateAllS (vw h 15) N) 719 l (lateE (vw h 15) M N n l, dryE (vw h 15) M N n l, lf l)).1 (scF (vw h 15) M N n (lateAllS (vw h 15) N) 719 l (lateE (vw h 15) M N n l, dryE (vw h 15) M N n l, lf l)).2.1 (scF (vw h 15) M N n (lateAllS (vw h 15) N) 719 l (lateE (vw h 15) M N n l, dryE (vw h 15) M N n l, lf l)).2.2 w') 330 3 (nI n)))) := by
  subst ez
  refine MtH.of [some (.ref 330), some (.ref 15), some (.ref 27), some (.int (nI n)), none, none] pl_X3 rfl rfl ?_
  refine g_aload_n d_X3_find_0 rfl ?_
  refine h_getI d_X3_find_1 fl_3_18 sp_Orders rfl ?_
  refine g_iload_n d_X3_find_4 rfl ?_
  refine g_icmp_ne d_X3_find_5 (fun c5 => ?_) (fun c5 => ?_)
  · refine g_aload_n d_X3_find_9 rfl ?_
    refine h_getR d_X3_find_10 fl_3_22 (sp_hall hall_15) rfl ?_
    refine g_iconst d_X3_find_13 ik_0 ?_
    refine g_aload_n d_X3_find_14 rfl ?_
    refine h_getR d_X3_find_15 fl_3_15 sp_Orders rfl ?_
    refine g_iconst d_X3_find_18 ik_0 ?_
    refine g_bipush d_X3_find_19 bk_6 ?_
    refine h_copy d_X3_find_21 ac_3_27 (sp_h11 hall_15) sp_tried (by decide) (by decide) (by decide) (by decide) (by decide) (by decide) (Nat.le_of_ble_eq_true rfl) ?_
    rw [show (0 : Int32).toNatClampNeg = 0 from by decide, show (6 : Int32).toNatClampNeg = 6 from by decide, show (15 + 11 : Nat) = 26 from rfl, rk_copy hr]
    refine g_aload_n d_X3_find_24 rfl ?_
    refine g_aload_n d_X3_find_25 rfl ?_
    refine g_aload_n d_X3_find_26 rfl ?_
    refine g_iload_n d_X3_find_27 rfl ?_
    refine g_iconst d_X3_find_28 ik_1 ?_
    refine h_V4P d_X3_find_29 cl_3_33 (m_tryOne hI hl.1 hl.2 rfl hn) sp_Orders (by decide) rfl (Nat.le_of_ble_eq_true rfl) (by decide) ?_
    rintro v' h' ⟨rfl, hq⟩
    rw [tryOne_as hq, show trS (vw h 15) M N n 1 l (h 330 1, h 330 2, h 331) = (lateE (vw h 15) M N n l, dryE (vw h 15) M N n l, lf l) from if_pos (Or.inl (by decide))]
    dsimp only
    have hlate : MtF M_X2_lateOfAll 2 [.ref 15] (ordH h l (lateE (vw h 15) M N n l) (dryE (vw h 15) M N n l) (lf l) (tickN M N n (rnk (vw h 15) l))) (some (.int (lateAllS (vw h 15) N))) (ordH h l (lateE (vw h 15) M N n l) (dryE (vw h 15) M N n l) (lf l) (tickN M N n (rnk (vw h 15) l))) := by
      have q := m_lateOfAll (h := ordH h l (lateE (vw h 15) M N n l) (dryE (vw h 15) M N n l) (lf l) (tickN M N n (rnk (vw h 15) l))) (g := vw h 15) hall_15 hI.hN hI.hN6
      have e : pu (ordH h l (lateE (vw h 15) M N n l) (dryE (vw h 15) M N n l) (lf l) (tickN M N n (rnk (vw h 15) l))) 15 (vw h 15) = ordH h l (lateE (vw h 15) M N n l) (dryE (vw h 15) M N n l) (lf l) (tickN M N n (rnk (vw h 15) l)) := by
        generalize hG : ordH h l (lateE (vw h 15) M N n l) (dryE (vw h 15) M N n l) (lf l) (tickN M N n (rnk (vw h 15) l)) = G
        have e9 : pu G 15 (vw h 15) = pu G 15 (vw G 15) := pu_ext (fun j y hj => by rw [← hG]; exact (ordH_o (x := 15 + j) (by omega) (by omega) (by omega) (by omega)).symm)
        rw [e9, pu_vw]
      rw [e] at q
      exact q
    refine g_aload_n d_X3_find_32 rfl ?_
    refine h_V0i d_X3_find_33 cl_3_37 hlate (sp_hall hall_15) (by decide) rfl (Nat.le_of_ble_eq_true rfl) (by decide) ?_
    refine w_istore (L' := [_, _, _, _, _, _]) d_X3_find_36 rfl rfl rfl ?_
    refine g_iconst d_X3_find_38 ik_1 ?_
    refine w_istore (L' := [_, _, _, _, _, _]) d_X3_find_39 rfl rfl rfl ?_
    have q := lp_find hI hn (least := lateAllS (vw h 15) N) 719 1 (by omega) l (lateE (vw h 15) M N n l) (dryE (vw h 15) M N n l) (lf l) (tickN M N n (rnk (vw h 15) l)) hl
    refine h_weaken q (fun v' h' hq => ?_)
    exact ⟨hq.1, Or.inr ⟨c5, hq.2⟩⟩
  · refine h_vret d_X3_find_8 rfl ?_
    exact ⟨rfl, Or.inl ⟨c5, rfl⟩⟩

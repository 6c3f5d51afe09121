/-! CONSTRUCTORS: acts, the class -/
section Rules
variable {M : Meth} {d mc ms pc pc' : Nat} {L : List (Option Value)} {st : List Value} {hp hp2 : Hp} {nc ns nc' ns' : Nat} {P : Option Value → Hp → Prop}
theorem b_init {N : Meth} {idx d' mc' ms' q : Nat} {cell : Nat × List Value} (hJ : CLJ M.1.cls idx N 0 ∨ CLI M.1.cls idx N 0) (hd : Dc M.2.1 pc (.invokespecial idx) 3 pc') (hN : Mt N d' mc' ms' [.ref q] hp (fun v hp' => v = none ∧ hp' = hp2)) (hq : hp[q]? = some cell) (hst : (st.map fun v => v.category).sum ≤ 8) (hd' : d' + 1 ≤ d) (hnc : nc + mc' = nc') (hns : ns + ms' = ns') (hmc : nc' ≤ mc) (hms : ns' ≤ ms) (hlen : hp2.length = hp.length + mc') (k : Gd M d mc ms pc' L st hp2 nc' ns' P) : Gd M d mc ms pc L (.ref q :: st) hp nc ns P := by
  subst hnc hns
  rcases hJ with h | h
  · exact g_callJ (As := []) hd h hN hq rfl hst hd' hmc hms (fun v hp' h => by rw [h.2]; exact hlen) (fun v hp' h => by
      obtain ⟨rfl, rfl⟩ := h
      exact k)
  · exact g_callI (As := []) hd h hN hq rfl hst hd' hmc hms (fun v hp' h => by rw [h.2]; exact hlen) (fun v hp' h => by
      obtain ⟨rfl, rfl⟩ := h
      exact k)
end Rules
def hallsB (n : Nat) : Hp := match n with
  | 0 => []
  | n + 1 => hallsB n ++ hallB (41 + 12 * n)
def arrA (i : Nat) : List Value := (List.range 24).map (fun j => if j < i then .ref (41 + 12 * j) else .null)
def blkA (i : Nat) : Hp := (0, [.ref 40, .int 0, .int 0]) :: (10, arrA i) :: hallsB i
theorem hallsB_len (n : Nat) : (hallsB n).length = 12 * n := by
  induction n with
  | zero => rfl
  | succ n ih =>
    unfold hallsB
    rw [List.length_append, ih, hallB_len]
    omega
theorem blkA_len (n : Nat) : (blkA n).length = 2 + 12 * n := by
  unfold blkA
  rw [List.length_cons, List.length_cons, hallsB_len]
  omega
theorem arrA_set : ∀ i, i < 24 → (arrA i).set i (.ref (41 + 12 * i)) = arrA (i + 1) := by decide +kernel
theorem i_acts_loop {pre : Hp} (ho : pre.length = 39) : ∀ (n i : Nat), i + n = 24 → Gd M_X0_init 2 289 1848 15 [some (.ref 39), some (.int (nI i))] [] (pre ++ blkA i) (1 + 12 * i) (24 + 76 * i) (fun v hp' => v = none ∧ hp' = pre ++ blkA 24)
  | 0, i, h => by
    have hi : i = 24 := by omega
    subst hi
    refine g_iload_n d_X0_init_15 rfl ?_
    refine g_bipush (v := nI 24) d_X0_init_16 (by decide +kernel) ?_
    refine g_icmp_ge d_X0_init_18 (fun _ => ?_) (fun h => absurd (nI_le (Nat.le_refl _) (by decide)) h)
    exact g_vret d_X0_init_40 rfl (by decide) (by decide) ⟨rfl, rfl⟩
  | n + 1, i, h => by
    have hi : i < 24 := by omega
    refine g_iload_n d_X0_init_15 rfl ?_
    refine g_bipush (v := nI 24) d_X0_init_16 (by decide +kernel) ?_
    refine g_icmp_ge d_X0_init_18 (fun h => absurd h (nI_ge hi (by decide))) (fun _ => ?_)
    refine g_aload_n d_X0_init_21 rfl ?_
    refine b_get (i := 0) ho d_X0_init_22 fl_0_11 rfl rfl rfl ?_
    refine g_iload_n d_X0_init_25 rfl ?_
    refine b_new (q := 41 + 12 * i) (nc' := 2 + 12 * i) (ns' := 40 + 76 * i) ho d_X0_init_26 nl_0_9 (by rw [blkA_len]; omega) rfl (by omega) (by omega) (by omega) (by omega) (by omega) ?_
    refine g_dup d_X0_init_29 rfl ?_
    have hpl : (pre ++ blkA i).length = 41 + 12 * i := by rw [List.length_append, blkA_len]; omega
    rw [← List.append_assoc]
    refine b_init (nc' := 13 + 12 * i) (ns' := 100 + 76 * i) (cell := (2, bX2)) (Or.inl cl_0_17) d_X0_init_30 (i_hall hpl (by omega)) (b_at hpl (i := 0) rfl) (Nat.le_of_ble_eq_true rfl) (by decide) (by omega) (by omega) (by omega) (by omega) (by simp only [List.length_append, hallB_len, List.length_singleton]) ?_
    rw [List.append_assoc]
    refine b_hst (i := 1) (i2 := 2 + 12 * i) (blk' := blkA (i + 1)) (vs := arrA i) ho d_X0_init_33 rfl rfl (by omega) (by
      rw [List.getElem?_append_right (by rw [blkA_len]; omega), blkA_len, Nat.sub_self]
      rfl) (nI_in (N := 24) hi (by decide)) (by
      rw [nI_clamp (by omega)]
      show (0, _) :: (10, (arrA i).set i _) :: (hallsB i ++ _) = _
      rw [arrA_set i hi]
      rfl) ?_
    refine g_iinc (v := nI (i + 1)) d_X0_init_34 rfl rfl rfl (by rw [nI_succ]; rfl) ?_
    refine g_goto d_X0_init_37 ?_
    have ih := i_acts_loop ho n (i + 1) (by omega)
    rw [show 1 + 12 * (i + 1) = 13 + 12 * i by omega, show 24 + 76 * (i + 1) = 100 + 76 * i by omega] at ih
    exact ih
theorem i_acts {pre : Hp} (ho : pre.length = 39) : Mt M_X0_init 2 289 1848 [.ref 39] (pre ++ [(0, bX0)]) (fun v hp' => v = none ∧ hp' = pre ++ blkA 24) := by
  refine Mt.of [some (.ref 39), none] (by decide +kernel) rfl rfl ?_
  show Gd _ _ _ _ _ _ _ (pre ++ [(0, [.null, .int 0, .int 0])]) _ _ _
  refine g_aload_n d_X0_init_0 rfl ?_
  refine g_obj d_X0_init_1 oi_0 (by decide) (by decide) ?_
  refine g_aload_n d_X0_init_4 rfl ?_
  refine g_bipush (v := 24) d_X0_init_5 (by decide +kernel) ?_
  refine b_newH (N := 24) (q := 40) (blk' := [(0, [.null, .int 0, .int 0]), (10, List.replicate 24 .null)]) (nc' := 1) (ns' := 24) ho d_X0_init_7 hk_0_9 (by decide) (by decide +kernel) rfl rfl rfl (by omega) rfl rfl (by decide) (by decide) ?_
  refine b_putF (i := 0) (blk' := blkA 0) ho d_X0_init_10 fl_0_11 rfl rfl rfl rfl (Nat.le_of_ble_eq_true rfl) (by decide +kernel) (fun _ _ => ⟨rfl, rfl⟩) ?_
  refine g_iconst (v := 0) d_X0_init_13 (by decide +kernel) ?_
  refine g_istore_n d_X0_init_14 rfl rfl ?_
  exact i_acts_loop ho 24 0 rfl
def rowsB (o : Nat) : Hp := [(4, [.ref (o + 1), .ref (o + 2), .ref (o + 3)]), (8, List.replicate 8 (.int (-1))), (8, List.replicate 8 (.int 0)), (11, [.ref (o + 4), .ref (o + 5), .ref (o + 6), .ref (o + 7), .ref (o + 8), .ref (o + 9), .ref (o + 10), .ref (o + 11)])] ++ List.replicate 8 (8, List.replicate 40 (.int 0))
theorem rowsB_len (o : Nat) : (rowsB o).length = 12 := rfl
def RowsI : Prop := ∀ (o : Nat) (pre : Hp), pre.length = o → o ≤ 1000 → Mt M_X4_init 1 11 344 [.ref o] (pre ++ [(4, bX4)]) (fun v hp' => v = none ∧ hp' = pre ++ rowsB o)
section Rules
variable {M : Meth} {d mc ms pc pc' : Nat} {L : List (Option Value)} {st : List Value} {hp hp' : Hp} {nc ns nc' ns' o q : Nat} {P : Option Value → Hp → Prop}
theorem hc_ {N : Meth} {d' mc' ms' : Nat} {pre : Hp} {x : Nat × List Value} {b : Hp} {hp2 : Hp} (h1 : pre ++ [x] = hp) (h2 : pre ++ b = hp2) (h : Mt N d' mc' ms' [.ref q] (pre ++ [x]) (fun v hp' => v = none ∧ hp' = pre ++ b)) : Mt N d' mc' ms' [.ref q] hp (fun v hp' => v = none ∧ hp' = hp2) := by
  subst h1 h2
  exact h
theorem h_new {idx ci N : Nat} {vs : List Value} (hd : Dc M.2.1 pc (.new idx) 3 pc') (hc : NL M.1.cls idx ci N vs) (hq : hp.length = q) (hb : hp ++ [(ci, vs)] = hp') (hn : q + 1 ≤ 1000000) (hnc : nc + 1 = nc') (hns : ns + N = ns') (h1c : nc' ≤ mc) (h1s : ns' ≤ ms) (k : Gd M d mc ms pc' L (.ref q :: st) hp' nc' ns' P) : Gd M d mc ms pc L st hp nc ns P := by
  subst hb hnc hns hq
  exact g_new hd hc (Nat.ble_eq.mpr hn) h1c h1s k
theorem h_newI {n : Int32} {N : Nat} (hd : Dc M.2.1 pc (.newarray .int) 2 pc') (h0 : ¬ n < 0) (hN : n.toNatClampNeg = N) (hN2 : Nat.ble N 100000 = true) (hq : hp.length = q) (hb : hp ++ [(8, List.replicate N (.int 0))] = hp') (hn : q + 1 ≤ 1000000) (hnc : nc + 1 = nc') (hns : ns + N = ns') (h1c : nc' ≤ mc) (h1s : ns' ≤ ms) (k : Gd M d mc ms pc' L (.ref q :: st) hp' nc' ns' P) : Gd M d mc ms pc L (.int n :: st) hp nc ns P := by
  subst hb hnc hns hq
  exact g_newI hd h0 hN hN2 (Nat.ble_eq.mpr hn) h1c h1s k
theorem h_newH {n : Int32} {N idx : Nat} (hd : Dc M.2.1 pc (.anewarray idx) 3 pc') (hc : Cond.classLink M.1.cls idx RX2 ∈ TT) (h0 : ¬ n < 0) (hN : n.toNatClampNeg = N) (hN2 : Nat.ble N 100000 = true) (hq : hp.length = q) (hb : hp ++ [(10, List.replicate N .null)] = hp') (hn : q + 1 ≤ 1000000) (hnc : nc + 1 = nc') (hns : ns + N = ns') (h1c : nc' ≤ mc) (h1s : ns' ≤ ms) (k : Gd M d mc ms pc' L (.ref q :: st) hp' nc' ns' P) : Gd M d mc ms pc L (.int n :: st) hp nc ns P := by
  subst hb hnc hns hq
  exact g_newH hd hc h0 hN hN2 (Nat.ble_eq.mpr hn) h1c h1s k
theorem h_putF {idx ci kf : Nat} {ty : FieldType} {vs : List Value} {v : Value} (hd : Dc M.2.1 pc (.putfield idx) 3 pc') (hf : FL M.1.cls idx ci kf true ty) (hcl2 : vwCl[ci]?.map (fun q => q.1) = some M.1.cls) (hnm2 : M.1.name = "<init>") (ho : hp[o]? = some (ci, vs)) (hv : kf < vs.length) (hb : hp.set o (ci, vs.set kf v) = hp') (hn : ∀ (B : Nat) (S : Nat → Nat), narrow ty (cv B S v) = cv B S v ∧ fits ty (cv B S v) = true) (k : Gd M d mc ms pc' L st hp' nc ns P) : Gd M d mc ms pc L (v :: .ref o :: st) hp nc ns P := by
  subst hb
  exact g_putF hd hf hcl2 hnm2 ho hv hn k
theorem h_hst {v : Nat} {j : Int32} {vs fs : List Value} (hd : Dc M.2.1 pc .aastore 1 pc') (ho : hp[o]? = some (10, vs)) (hv : hp[v]? = some (2, fs)) (h0 : vp_in j vs.length) (hb : hp.set o (10, vs.set j.toNatClampNeg (.ref v)) = hp') (k : Gd M d mc ms pc' L st hp' nc ns P) : Gd M d mc ms pc L (.ref v :: .int j :: .ref o :: st) hp nc ns P := by
  subst hb
  exact g_hst (ci := 0) hd ho hv h0 k
end Rules
def Z1 : Hp := ((6, [.ref 1, .ref 13, .ref 15, .ref 27, .ref 39, .ref 329, .ref 330, .ref 333, .ref 335, .int 0]) :: (([] : Hp) ++ rowsB 1 ++ tapeB 13 ++ hallB 15 ++ hallB 27 ++ blkA 24 ++ [(10, [.ref 336, .ref 348])] ++ ordersB 330 ++ asksB 333 ++ [(8, List.replicate 32 (.int 0))] ++ hallB 336 ++ hallB 348))
theorem i_class (hR : RowsI) : Mt M_X6_init 3 359 2688 [.ref 0] [(6, bX6)] (fun v hp' => v = none ∧ hp' = Z1) := by
  refine Mt.of [some (.ref 0), none] (by decide +kernel) rfl rfl ?_
  show Gd _ _ _ _ _ _ _ ((6, [.null, .null, .null, .null, .null, .null, .null, .null, .null, .int 0]) :: ([] : Hp)) _ _ _
  refine g_aload_n d_X6_init_0 rfl ?_
  refine g_obj d_X6_init_1 oi_6 (by decide) (by decide) ?_
  refine g_aload_n d_X6_init_4 rfl ?_
  refine h_new (q := 1) (nc' := 1) (ns' := 3) (hp' := ((6, [.null, .null, .null, .null, .null, .null, .null, .null, .null, .int 0]) :: (([] : Hp) ++ [(4, bX4)]))) d_X6_init_5 nl_6_7 (by decide +kernel) rfl (by decide) rfl rfl (by decide) (by decide) ?_
  refine g_dup d_X6_init_8 rfl ?_
  refine b_init (nc' := 12) (ns' := 347) (hp2 := ((6, [.null, .null, .null, .null, .null, .null, .null, .null, .null, .int 0]) :: (([] : Hp) ++ rowsB 1))) (cell := (4, bX4)) (Or.inl cl_6_9) d_X6_init_9 (hc_ (pre := ((6, [.null, .null, .null, .null, .null, .null, .null, .null, .null, .int 0]) :: (([] : Hp)))) rfl rfl (hR 1 _ (by decide +kernel) (by decide))) (by decide +kernel) (by decide) (by decide) rfl rfl (by decide) (by decide) (by decide +kernel) ?_
  refine h_putF (o := 0) (hp' := ((6, [.ref 1, .null, .null, .null, .null, .null, .null, .null, .null, .int 0]) :: (([] : Hp) ++ rowsB 1))) d_X6_init_12 fl_6_10 rfl rfl rfl (Nat.le_of_ble_eq_true rfl) rfl (fun _ _ => ⟨rfl, rfl⟩) ?_
  refine g_aload_n d_X6_init_15 rfl ?_
  refine h_new (q := 13) (nc' := 13) (ns' := 354) (hp' := ((6, [.ref 1, .null, .null, .null, .null, .null, .null, .null, .null, .int 0]) :: (([] : Hp) ++ rowsB 1 ++ [(5, bX5)]))) d_X6_init_16 nl_6_16 (by decide +kernel) rfl (by decide) rfl rfl (by decide) (by decide) ?_
  refine g_dup d_X6_init_19 rfl ?_
  refine b_init (nc' := 14) (ns' := 464) (hp2 := ((6, [.ref 1, .null, .null, .null, .null, .null, .null, .null, .null, .int 0]) :: (([] : Hp) ++ rowsB 1 ++ tapeB 13))) (cell := (5, bX5)) (Or.inl cl_6_18) d_X6_init_20 (hc_ (pre := ((6, [.ref 1, .null, .null, .null, .null, .null, .null, .null, .null, .int 0]) :: (([] : Hp) ++ rowsB 1))) rfl rfl (i_tape (by decide +kernel) (by decide))) (by decide +kernel) (by decide) (by decide) rfl rfl (by decide) (by decide) (by decide +kernel) ?_
  refine h_putF (o := 0) (hp' := ((6, [.ref 1, .ref 13, .null, .null, .null, .null, .null, .null, .null, .int 0]) :: (([] : Hp) ++ rowsB 1 ++ tapeB 13))) d_X6_init_23 fl_6_19 rfl rfl rfl (Nat.le_of_ble_eq_true rfl) rfl (fun _ _ => ⟨rfl, rfl⟩) ?_
  refine g_aload_n d_X6_init_26 rfl ?_
  refine h_new (q := 15) (nc' := 15) (ns' := 480) (hp' := ((6, [.ref 1, .ref 13, .null, .null, .null, .null, .null, .null, .null, .int 0]) :: (([] : Hp) ++ rowsB 1 ++ tapeB 13 ++ [(2, bX2)]))) d_X6_init_27 nl_6_23 (by decide +kernel) rfl (by decide) rfl rfl (by decide) (by decide) ?_
  refine g_dup d_X6_init_30 rfl ?_
  refine b_init (nc' := 26) (ns' := 540) (hp2 := ((6, [.ref 1, .ref 13, .null, .null, .null, .null, .null, .null, .null, .int 0]) :: (([] : Hp) ++ rowsB 1 ++ tapeB 13 ++ hallB 15))) (cell := (2, bX2)) (Or.inl cl_6_25) d_X6_init_31 (hc_ (pre := ((6, [.ref 1, .ref 13, .null, .null, .null, .null, .null, .null, .null, .int 0]) :: (([] : Hp) ++ rowsB 1 ++ tapeB 13))) rfl rfl (i_hall (by decide +kernel) (by decide))) (by decide +kernel) (by decide) (by decide) rfl rfl (by decide) (by decide) (by decide +kernel) ?_
  refine h_putF (o := 0) (hp' := ((6, [.ref 1, .ref 13, .ref 15, .null, .null, .null, .null, .null, .null, .int 0]) :: (([] : Hp) ++ rowsB 1 ++ tapeB 13 ++ hallB 15))) d_X6_init_34 fl_6_26 rfl rfl rfl (Nat.le_of_ble_eq_true rfl) rfl (fun _ _ => ⟨rfl, rfl⟩) ?_
  refine g_aload_n d_X6_init_37 rfl ?_
  refine h_new (q := 27) (nc' := 27) (ns' := 556) (hp' := ((6, [.ref 1, .ref 13, .ref 15, .null, .null, .null, .null, .null, .null, .int 0]) :: (([] : Hp) ++ rowsB 1 ++ tapeB 13 ++ hallB 15 ++ [(2, bX2)]))) d_X6_init_38 nl_6_23 (by decide +kernel) rfl (by decide) rfl rfl (by decide) (by decide) ?_
  refine g_dup d_X6_init_41 rfl ?_
  refine b_init (nc' := 38) (ns' := 616) (hp2 := ((6, [.ref 1, .ref 13, .ref 15, .null, .null, .null, .null, .null, .null, .int 0]) :: (([] : Hp) ++ rowsB 1 ++ tapeB 13 ++ hallB 15 ++ hallB 27))) (cell := (2, bX2)) (Or.inl cl_6_25) d_X6_init_42 (hc_ (pre := ((6, [.ref 1, .ref 13, .ref 15, .null, .null, .null, .null, .null, .null, .int 0]) :: (([] : Hp) ++ rowsB 1 ++ tapeB 13 ++ hallB 15))) rfl rfl (i_hall (by decide +kernel) (by decide))) (by decide +kernel) (by decide) (by decide) rfl rfl (by decide) (by decide) (by decide +kernel) ?_
  refine h_putF (o := 0) (hp' := ((6, [.ref 1, .ref 13, .ref 15, .ref 27, .null, .null, .null, .null, .null, .int 0]) :: (([] : Hp) ++ rowsB 1 ++ tapeB 13 ++ hallB 15 ++ hallB 27))) d_X6_init_45 fl_6_30 rfl rfl rfl (Nat.le_of_ble_eq_true rfl) rfl (fun _ _ => ⟨rfl, rfl⟩) ?_
  refine g_aload_n d_X6_init_48 rfl ?_
  refine h_new (q := 39) (nc' := 39) (ns' := 619) (hp' := ((6, [.ref 1, .ref 13, .ref 15, .ref 27, .null, .null, .null, .null, .null, .int 0]) :: (([] : Hp) ++ rowsB 1 ++ tapeB 13 ++ hallB 15 ++ hallB 27 ++ [(0, bX0)]))) d_X6_init_49 nl_6_33 (by decide +kernel) rfl (by decide) rfl rfl (by decide) (by decide) ?_
  refine g_dup d_X6_init_52 rfl ?_
  refine b_init (nc' := 328) (ns' := 2467) (hp2 := ((6, [.ref 1, .ref 13, .ref 15, .ref 27, .null, .null, .null, .null, .null, .int 0]) :: (([] : Hp) ++ rowsB 1 ++ tapeB 13 ++ hallB 15 ++ hallB 27 ++ blkA 24))) (cell := (0, bX0)) (Or.inr cl_6_35) d_X6_init_53 (hc_ (pre := ((6, [.ref 1, .ref 13, .ref 15, .ref 27, .null, .null, .null, .null, .null, .int 0]) :: (([] : Hp) ++ rowsB 1 ++ tapeB 13 ++ hallB 15 ++ hallB 27))) rfl rfl (i_acts (by decide +kernel))) (by decide +kernel) (by decide) (by decide) rfl rfl (by decide) (by decide) (by decide +kernel) ?_
  refine h_putF (o := 0) (hp' := ((6, [.ref 1, .ref 13, .ref 15, .ref 27, .ref 39, .null, .null, .null, .null, .int 0]) :: (([] : Hp) ++ rowsB 1 ++ tapeB 13 ++ hallB 15 ++ hallB 27 ++ blkA 24))) d_X6_init_56 fl_6_36 rfl rfl rfl (Nat.le_of_ble_eq_true rfl) rfl (fun _ _ => ⟨rfl, rfl⟩) ?_
  refine g_aload_n d_X6_init_59 rfl ?_
  refine g_iconst (v := 2) d_X6_init_60 (by decide +kernel) ?_
  refine h_newH (N := 2) (q := 329) (nc' := 329) (ns' := 2469) (hp' := ((6, [.ref 1, .ref 13, .ref 15, .ref 27, .ref 39, .null, .null, .null, .null, .int 0]) :: (([] : Hp) ++ rowsB 1 ++ tapeB 13 ++ hallB 15 ++ hallB 27 ++ blkA 24 ++ [(10, [.null, .null])]))) d_X6_init_61 hk_6_23 (by decide) (by decide +kernel) rfl (by decide +kernel) rfl (by decide) rfl rfl (by decide) (by decide) ?_
  refine h_putF (o := 0) (hp' := ((6, [.ref 1, .ref 13, .ref 15, .ref 27, .ref 39, .ref 329, .null, .null, .null, .int 0]) :: (([] : Hp) ++ rowsB 1 ++ tapeB 13 ++ hallB 15 ++ hallB 27 ++ blkA 24 ++ [(10, [.null, .null])]))) d_X6_init_64 fl_6_40 rfl rfl rfl (Nat.le_of_ble_eq_true rfl) rfl (fun _ _ => ⟨rfl, rfl⟩) ?_
  refine g_aload_n d_X6_init_67 rfl ?_
  refine h_new (q := 330) (nc' := 330) (ns' := 2474) (hp' := ((6, [.ref 1, .ref 13, .ref 15, .ref 27, .ref 39, .ref 329, .null, .null, .null, .int 0]) :: (([] : Hp) ++ rowsB 1 ++ tapeB 13 ++ hallB 15 ++ hallB 27 ++ blkA 24 ++ [(10, [.null, .null])] ++ [(3, bX3)]))) d_X6_init_68 nl_6_44 (by decide +kernel) rfl (by decide) rfl rfl (by decide) (by decide) ?_
  refine g_dup d_X6_init_71 rfl ?_
  refine b_init (nc' := 332) (ns' := 2486) (hp2 := ((6, [.ref 1, .ref 13, .ref 15, .ref 27, .ref 39, .ref 329, .null, .null, .null, .int 0]) :: (([] : Hp) ++ rowsB 1 ++ tapeB 13 ++ hallB 15 ++ hallB 27 ++ blkA 24 ++ [(10, [.null, .null])] ++ ordersB 330))) (cell := (3, bX3)) (Or.inl cl_6_46) d_X6_init_72 (hc_ (pre := ((6, [.ref 1, .ref 13, .ref 15, .ref 27, .ref 39, .ref 329, .null, .null, .null, .int 0]) :: (([] : Hp) ++ rowsB 1 ++ tapeB 13 ++ hallB 15 ++ hallB 27 ++ blkA 24 ++ [(10, [.null, .null])]))) rfl rfl (i_orders (by decide +kernel) (by decide))) (by decide +kernel) (by decide) (by decide) rfl rfl (by decide) (by decide) (by decide +kernel) ?_
  refine h_putF (o := 0) (hp' := ((6, [.ref 1, .ref 13, .ref 15, .ref 27, .ref 39, .ref 329, .ref 330, .null, .null, .int 0]) :: (([] : Hp) ++ rowsB 1 ++ tapeB 13 ++ hallB 15 ++ hallB 27 ++ blkA 24 ++ [(10, [.null, .null])] ++ ordersB 330))) d_X6_init_75 fl_6_47 rfl rfl rfl (Nat.le_of_ble_eq_true rfl) rfl (fun _ _ => ⟨rfl, rfl⟩) ?_
  refine g_aload_n d_X6_init_78 rfl ?_
  refine h_new (q := 333) (nc' := 333) (ns' := 2488) (hp' := ((6, [.ref 1, .ref 13, .ref 15, .ref 27, .ref 39, .ref 329, .ref 330, .null, .null, .int 0]) :: (([] : Hp) ++ rowsB 1 ++ tapeB 13 ++ hallB 15 ++ hallB 27 ++ blkA 24 ++ [(10, [.null, .null])] ++ ordersB 330 ++ [(1, bX1)]))) d_X6_init_79 nl_6_51 (by decide +kernel) rfl (by decide) rfl rfl (by decide) (by decide) ?_
  refine g_dup d_X6_init_82 rfl ?_
  refine b_init (nc' := 334) (ns' := 2504) (hp2 := ((6, [.ref 1, .ref 13, .ref 15, .ref 27, .ref 39, .ref 329, .ref 330, .null, .null, .int 0]) :: (([] : Hp) ++ rowsB 1 ++ tapeB 13 ++ hallB 15 ++ hallB 27 ++ blkA 24 ++ [(10, [.null, .null])] ++ ordersB 330 ++ asksB 333))) (cell := (1, bX1)) (Or.inl cl_6_53) d_X6_init_83 (hc_ (pre := ((6, [.ref 1, .ref 13, .ref 15, .ref 27, .ref 39, .ref 329, .ref 330, .null, .null, .int 0]) :: (([] : Hp) ++ rowsB 1 ++ tapeB 13 ++ hallB 15 ++ hallB 27 ++ blkA 24 ++ [(10, [.null, .null])] ++ ordersB 330))) rfl rfl (i_asks (by decide +kernel) (by decide))) (by decide +kernel) (by decide) (by decide) rfl rfl (by decide) (by decide) (by decide +kernel) ?_
  refine h_putF (o := 0) (hp' := ((6, [.ref 1, .ref 13, .ref 15, .ref 27, .ref 39, .ref 329, .ref 330, .ref 333, .null, .int 0]) :: (([] : Hp) ++ rowsB 1 ++ tapeB 13 ++ hallB 15 ++ hallB 27 ++ blkA 24 ++ [(10, [.null, .null])] ++ ordersB 330 ++ asksB 333))) d_X6_init_86 fl_6_54 rfl rfl rfl (Nat.le_of_ble_eq_true rfl) rfl (fun _ _ => ⟨rfl, rfl⟩) ?_
  refine g_aload_n d_X6_init_89 rfl ?_
  refine g_bipush (v := 32) d_X6_init_90 (by decide +kernel) ?_
  refine h_newI (N := 32) (q := 335) (nc' := 335) (ns' := 2536) (hp' := ((6, [.ref 1, .ref 13, .ref 15, .ref 27, .ref 39, .ref 329, .ref 330, .ref 333, .null, .int 0]) :: (([] : Hp) ++ rowsB 1 ++ tapeB 13 ++ hallB 15 ++ hallB 27 ++ blkA 24 ++ [(10, [.null, .null])] ++ ordersB 330 ++ asksB 333 ++ [(8, List.replicate 32 (.int 0))]))) d_X6_init_92 (by decide) (by decide +kernel) rfl (by decide +kernel) rfl (by decide) rfl rfl (by decide) (by decide) ?_
  refine h_putF (o := 0) (hp' := ((6, [.ref 1, .ref 13, .ref 15, .ref 27, .ref 39, .ref 329, .ref 330, .ref 333, .ref 335, .int 0]) :: (([] : Hp) ++ rowsB 1 ++ tapeB 13 ++ hallB 15 ++ hallB 27 ++ blkA 24 ++ [(10, [.null, .null])] ++ ordersB 330 ++ asksB 333 ++ [(8, List.replicate 32 (.int 0))]))) d_X6_init_94 fl_6_58 rfl rfl rfl (Nat.le_of_ble_eq_true rfl) rfl (fun _ _ => ⟨rfl, rfl⟩) ?_
  refine g_iconst (v := 0) d_X6_init_97 (by decide +kernel) ?_
  refine g_istore_n d_X6_init_98 rfl rfl ?_
  refine g_iload_n d_X6_init_99 rfl ?_
  refine g_iconst (v := 2) d_X6_init_100 (by decide +kernel) ?_
  refine g_icmp_ge d_X6_init_101 (fun h => absurd h (by decide)) (fun _ => ?_)
  refine g_aload_n d_X6_init_104 rfl ?_
  refine g_get (o := 0) d_X6_init_105 fl_6_40 rfl rfl ?_
  refine g_iload_n d_X6_init_108 rfl ?_
  refine h_new (q := 336) (nc' := 336) (ns' := 2552) (hp' := ((6, [.ref 1, .ref 13, .ref 15, .ref 27, .ref 39, .ref 329, .ref 330, .ref 333, .ref 335, .int 0]) :: (([] : Hp) ++ rowsB 1 ++ tapeB 13 ++ hallB 15 ++ hallB 27 ++ blkA 24 ++ [(10, [.null, .null])] ++ ordersB 330 ++ asksB 333 ++ [(8, List.replicate 32 (.int 0))] ++ [(2, bX2)]))) d_X6_init_109 nl_6_23 (by decide +kernel) rfl (by decide) rfl rfl (by decide) (by decide) ?_
  refine g_dup d_X6_init_112 rfl ?_
  refine b_init (nc' := 347) (ns' := 2612) (hp2 := ((6, [.ref 1, .ref 13, .ref 15, .ref 27, .ref 39, .ref 329, .ref 330, .ref 333, .ref 335, .int 0]) :: (([] : Hp) ++ rowsB 1 ++ tapeB 13 ++ hallB 15 ++ hallB 27 ++ blkA 24 ++ [(10, [.null, .null])] ++ ordersB 330 ++ asksB 333 ++ [(8, List.replicate 32 (.int 0))] ++ hallB 336))) (cell := (2, bX2)) (Or.inl cl_6_25) d_X6_init_113 (hc_ (pre := ((6, [.ref 1, .ref 13, .ref 15, .ref 27, .ref 39, .ref 329, .ref 330, .ref 333, .ref 335, .int 0]) :: (([] : Hp) ++ rowsB 1 ++ tapeB 13 ++ hallB 15 ++ hallB 27 ++ blkA 24 ++ [(10, [.null, .null])] ++ ordersB 330 ++ asksB 333 ++ [(8, List.replicate 32 (.int 0))]))) rfl rfl (i_hall (by decide +kernel) (by decide))) (by decide +kernel) (by decide) (by decide) rfl rfl (by decide) (by decide) (by decide +kernel) ?_
  refine h_hst (o := 329) (v := 336) (vs := [.null, .null]) (fs := [.int 0, .int 0, .int 0, .int 0, .int 0, .ref 337, .ref 338, .ref 339, .ref 340, .ref 341, .ref 342, .ref 343, .ref 344, .ref 345, .ref 346, .ref 347]) (hp' := ((6, [.ref 1, .ref 13, .ref 15, .ref 27, .ref 39, .ref 329, .ref 330, .ref 333, .ref 335, .int 0]) :: (([] : Hp) ++ rowsB 1 ++ tapeB 13 ++ hallB 15 ++ hallB 27 ++ blkA 24 ++ [(10, [.ref 336, .null])] ++ ordersB 330 ++ asksB 333 ++ [(8, List.replicate 32 (.int 0))] ++ hallB 336))) d_X6_init_116 (by decide +kernel) (by decide +kernel) (by unfold vp_in; decide) (by decide +kernel) ?_
  refine g_iinc (v := 1) d_X6_init_117 rfl rfl rfl (by decide +kernel) ?_
  refine g_goto d_X6_init_120 ?_
  refine g_iload_n d_X6_init_99 rfl ?_
  refine g_iconst (v := 2) d_X6_init_100 (by decide +kernel) ?_
  refine g_icmp_ge d_X6_init_101 (fun h => absurd h (by decide)) (fun _ => ?_)
  refine g_aload_n d_X6_init_104 rfl ?_
  refine g_get (o := 0) d_X6_init_105 fl_6_40 rfl rfl ?_
  refine g_iload_n d_X6_init_108 rfl ?_
  refine h_new (q := 348) (nc' := 348) (ns' := 2628) (hp' := ((6, [.ref 1, .ref 13, .ref 15, .ref 27, .ref 39, .ref 329, .ref 330, .ref 333, .ref 335, .int 0]) :: (([] : Hp) ++ rowsB 1 ++ tapeB 13 ++ hallB 15 ++ hallB 27 ++ blkA 24 ++ [(10, [.ref 336, .null])] ++ ordersB 330 ++ asksB 333 ++ [(8, List.replicate 32 (.int 0))] ++ hallB 336 ++ [(2, bX2)]))) d_X6_init_109 nl_6_23 (by decide +kernel) rfl (by decide) rfl rfl (by decide) (by decide) ?_
  refine g_dup d_X6_init_112 rfl ?_
  refine b_init (nc' := 359) (ns' := 2688) (hp2 := ((6, [.ref 1, .ref 13, .ref 15, .ref 27, .ref 39, .ref 329, .ref 330, .ref 333, .ref 335, .int 0]) :: (([] : Hp) ++ rowsB 1 ++ tapeB 13 ++ hallB 15 ++ hallB 27 ++ blkA 24 ++ [(10, [.ref 336, .null])] ++ ordersB 330 ++ asksB 333 ++ [(8, List.replicate 32 (.int 0))] ++ hallB 336 ++ hallB 348))) (cell := (2, bX2)) (Or.inl cl_6_25) d_X6_init_113 (hc_ (pre := ((6, [.ref 1, .ref 13, .ref 15, .ref 27, .ref 39, .ref 329, .ref 330, .ref 333, .ref 335, .int 0]) :: (([] : Hp) ++ rowsB 1 ++ tapeB 13 ++ hallB 15 ++ hallB 27 ++ blkA 24 ++ [(10, [.ref 336, .null])] ++ ordersB 330 ++ asksB 333 ++ [(8, List.replicate 32 (.int 0))] ++ hallB 336))) rfl rfl (i_hall (by decide +kernel) (by decide))) (by decide +kernel) (by decide) (by decide) rfl rfl (by decide) (by decide) (by decide +kernel) ?_
  refine h_hst (o := 329) (v := 348) (vs := [.ref 336, .null]) (fs := [.int 0, .int 0, .int 0, .int 0, .int 0, .ref 349, .ref 350, .ref 351, .ref 352, .ref 353, .ref 354, .ref 355, .ref 356, .ref 357, .ref 358, .ref 359]) (hp' := ((6, [.ref 1, .ref 13, .ref 15, .ref 27, .ref 39, .ref 329, .ref 330, .ref 333, .ref 335, .int 0]) :: (([] : Hp) ++ rowsB 1 ++ tapeB 13 ++ hallB 15 ++ hallB 27 ++ blkA 24 ++ [(10, [.ref 336, .ref 348])] ++ ordersB 330 ++ asksB 333 ++ [(8, List.replicate 32 (.int 0))] ++ hallB 336 ++ hallB 348))) d_X6_init_116 (by decide +kernel) (by decide +kernel) (by unfold vp_in; decide) (by decide +kernel) ?_
  refine g_iinc (v := 2) d_X6_init_117 rfl rfl rfl (by decide +kernel) ?_
  refine g_goto d_X6_init_120 ?_
  refine g_iload_n d_X6_init_99 rfl ?_
  refine g_iconst (v := 2) d_X6_init_100 (by decide +kernel) ?_
  refine g_icmp_ge d_X6_init_101 (fun _ => ?_) (fun h => absurd (by decide) h)
  exact g_vret d_X6_init_123 rfl (by decide) (by decide) ⟨rfl, rfl⟩
theorem Z1_len : Z1.length = 360 := by decide +kernel

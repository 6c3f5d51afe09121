/-! THE ROWS' CONSTRUCTOR -/
theorem mo_outer (c : ClassId) (N h0 : Nat) : ∀ i : Nat, Jvm.Free.Multi.outerC c N h0 i = arrV c N (fun j => va_rf (if j < i then some (h0 + 1 + j) else none))
  | 0 => (arrV_new c N .null).trans (congrArg (arrV c N) (funext fun j => by simp [va_rf]))
  | i + 1 => by
    show (Jvm.Free.Multi.outerC c N h0 i).setSlot i (.ref (h0 + 1 + i)) = _
    rw [mo_outer c N h0 i, arrV_store]
    refine congrArg (arrV c N) (funext fun j => ?_)
    by_cases e : j = i
    · subst e
      simp [updV, va_rf]
    · by_cases h : j < i
      · simp [updV, e, h, Nat.lt_succ_of_lt h]
      · simp [updV, e, h, show ¬ j < i + 1 by omega]
theorem mo_inner (c : ClassId) (K : Nat) : Jvm.Free.Multi.innerC c K (defaultValue .int) = vp_cell c (K, .inl (fun _ => 0)) := arrV_new c K (.int 0)
section Rules
variable {M : Meth} {d mc ms pc pc' : Nat} {L : List (Option Value)} {st : List Value} {hp : Hp} {nc ns : Nat} {P : Option Value → Hp → Prop}
/-- the rows that one instruction makes: the outer one, and behind it the inner ones -/
def mnaB (o N K : Nat) : Hp := (11, (List.range N).map (fun j => .ref (o + 1 + j))) :: List.replicate N (8, List.replicate K (.int 0))
theorem mnaB_len (o N K : Nat) : (mnaB o N K).length = N + 1 := by
  unfold mnaB
  rw [List.length_cons, List.length_replicate]
theorem mna_rv {B : Nat} {S : Nat → Nat} {o N : Nat} (h : o + 1 + N ≤ 1000000) : (fun j => rv B S (((List.range N).map (fun j => Value.ref (o + 1 + j))).getD j .null)) = fun j => if j < N then some (B + o + 1 + j) else none := by
  funext j
  rw [List.getD_eq_getElem?_getD, List.getElem?_map]
  by_cases hj : j < N
  · rw [List.getElem?_range hj, if_pos hj]
    show some (ad B S (o + 1 + j)) = _
    rw [ad_lt (by omega)]
    congr 1
    omega
  · rw [List.getElem?_eq_none (by rw [List.length_range]; omega), if_neg hj]
    rfl
theorem g_mna {idx : Nat} {n k : Int32} {N K : Nat} (hd : Dc M.2.1 pc (.multianewarray idx 2) 4 pc') (hc : Cond.classLink M.1.cls idx "[[I" ∈ TT) (hn : ¬ n < 0) (hk : ¬ k < 0) (hN : n.toNatClampNeg = N) (hKK : k.toNatClampNeg = K) (hb1 : N ≤ 1000) (hb2 : K ≤ 1000) (hln : hp.length + 1 + N ≤ 1000000) (h1c : nc + (1 + N) ≤ mc) (h1s : ns + (N + N * K) ≤ ms) (kk : Gd M d mc ms pc' L (.ref hp.length :: st) (hp ++ mnaB hp.length N K) (nc + 1 + N) (ns + N + N * K) P) : Gd M d mc ms pc L (.int k :: .int n :: st) hp nc ns P := by
  obtain ⟨h1, rfl⟩ := hd
  subst hN
  subst hKK
  refine fun l p e s m args below meth c B S D cy H locs ls C hZ hW hS hL => ?_
  intro T hT Xs
  have hsz : H.size = B + hp.length := by
    have g1 := Xs.heapSize
    rw [hT] at g1
    have g2 := wd_le hW (Nat.le_trans C.2.2.2.2.2.2.2.2.2.2 hS.1)
    omega
  obtain ⟨vm₁, cA, comp, -, fA, fC, hO, -, X', step⟩ := Xs.multianewarray2F (ty := .int) C.1 C.2.2.2.2.1 (C.2.2.2.2.2.1 _ hc) (C.2.2.2.2.2.2.2.2.2.1.2.2) (C.2.2.2.2.2.1 _ (tt_of 115 (by decide +kernel) rfl)) (g := F0 m pc ls (.int k :: .int n :: st.map (cv B S))) rfl (by rw [C.2.1]; exact h1) rfl hn hk (by omega) (by show _ * 4 ≤ _; omega) (by omega) rfl rfl h1c h1s
  have e8 : some (cy 8) = some comp := (hW.2.2.2 0 _ rfl).2.symm.trans fC
  have e11 : some (cy 11) = some cA := (hW.2.2.2 3 _ rfl).2.symm.trans fA
  cases e8
  cases e11
  generalize hF : Jvm.Free.Multi.fill (T.setVm vm₁) (cy 11) (cy 8) n.toNatClampNeg k.toNatClampNeg (defaultValue .int) n.toNatClampNeg = F at X' step
  have hTh : (T.setVm vm₁).heap = H := hT
  obtain ⟨f1, f2, -, -⟩ := Jvm.Free.Multi.fill_facts (T.setVm vm₁) (cy 11) (cy 8) n.toNatClampNeg k.toNatClampNeg (defaultValue .int) n.toNatClampNeg
  rw [hF, hTh] at f1 f2
  have hold : ∀ x : Nat, x < H.size → F.heap[x]? = H[x]? := fun x hx => by
    have := Jvm.Free.Multi.fill_old (T.setVm vm₁) (cy 11) (cy 8) n.toNatClampNeg k.toNatClampNeg (defaultValue .int) (a := x) (by rw [hTh]; exact hx) n.toNatClampNeg
    rw [hF, hTh] at this
    exact this
  have hrow : ∀ j : Nat, j < n.toNatClampNeg → F.heap[H.size + 1 + j]? = some (vp_cell (cy 8) (k.toNatClampNeg, .inl (fun _ => 0))) := fun j hj => by
    have := Jvm.Free.Multi.fill_inner (T.setVm vm₁) (cy 11) (cy 8) n.toNatClampNeg k.toNatClampNeg (defaultValue .int) n.toNatClampNeg j hj
    rw [hF, hTh, mo_inner] at this
    exact this
  rw [mo_outer] at f2
  have hP0 : va_P D vwCl (wO B S cy hp) F.heap := hW.2.1.kept (fun k9 x hx => hold x.1 ((hW.2.1 k9 x hx).lt))
  have hP : va_P D vwCl (wO B S cy (hp ++ mnaB hp.length n.toNatClampNeg k.toNatClampNeg)) F.heap := by
    intro i x hx
    obtain ⟨q, hq, rfl⟩ := wO_back hx
    by_cases h2 : i < hp.length
    · rw [List.getElem?_append_left h2] at hq
      exact hP0 i _ (wO_at hq)
    · rw [List.getElem?_append_right (by omega)] at hq
      cases hi : i - hp.length with
      | zero =>
        rw [hi] at hq
        cases hq
        rw [ce_ref (by decide), List.length_map, List.length_range, mna_rv hln, show B + i = H.size by omega, show B + hp.length = H.size by omega]
        exact f2
      | succ j =>
        rw [hi] at hq
        have hq2 : (List.replicate n.toNatClampNeg ((8, List.replicate k.toNatClampNeg (.int 0)) : Nat × List Value))[j]? = some q := hq
        rw [List.getElem?_replicate] at hq2
        by_cases hj : j < n.toNatClampNeg
        · rw [if_pos hj] at hq2
          cases hq2
          rw [ce_int (by decide) (by decide), List.length_replicate, zI_iv, show B + i = H.size + 1 + j by omega]
          exact hrow j hj
        · rw [if_neg hj] at hq2
          cases hq2
  have kk2 := kk l p e s m args below meth c B S D cy F.heap locs ls C (by rw [List.length_append, mnaB_len]; omega) ⟨by rw [List.length_append, mnaB_len]; omega, hP, hW.2.2⟩ ⟨by rw [f1]; have := hS.1; omega, fun x h1 h2 => (hold x (Nat.lt_of_lt_of_le h1 hS.1)).trans (hS.2.1 x h1 h2), hS.2.2⟩ hL
  obtain ⟨t, a1, b1⟩ := kk2 F rfl X'
  refine ⟨t, step t ?_, b1⟩
  have e : T.heap.size = H.size := by rw [hT]
  rw [e, hsz]
  rw [List.map_cons, stk_ref (by omega)] at a1
  exact a1
end Rules
section Rules
variable {M : Meth} {d mc ms pc pc' : Nat} {L : List (Option Value)} {st : List Value} {pre blk blk' : Hp} {nc ns nc' ns' o q a i : Nat} {P : Option Value → Hp → Prop}
theorem b_mna {idx : Nat} {n k : Int32} {N K : Nat} (ho : pre.length = o) (hd : Dc M.2.1 pc (.multianewarray idx 2) 4 pc') (hc : Cond.classLink M.1.cls idx "[[I" ∈ TT) (hn : ¬ n < 0) (hk : ¬ k < 0) (hN : n.toNatClampNeg = N) (hKK : k.toNatClampNeg = K) (hb1 : N ≤ 1000) (hb2 : K ≤ 1000) (hq : o + blk.length = q) (hln : q + 1 + N ≤ 1000000) (hb : blk ++ mnaB q N K = blk') (h1c : nc + (1 + N) ≤ mc) (h1s : ns + (N + N * K) ≤ ms) (hnc : nc + 1 + N = nc') (hns : ns + N + N * K = ns') (kk : Gd M d mc ms pc' L (.ref q :: st) (pre ++ blk') nc' ns' P) : Gd M d mc ms pc L (.int k :: .int n :: st) (pre ++ blk) nc ns P := by
  subst hb hnc hns
  have e : (pre ++ blk).length = q := by rw [List.length_append]; omega
  refine g_mna hd hc hn hk hN hKK hb1 hb2 (by rw [e]; exact hln) h1c h1s ?_
  rw [e, List.append_assoc]
  exact kk
end Rules
theorem hk_4_18 : Cond.classLink RX4 18 "[[I" ∈ TT := tt_of 101 (by decide +kernel) rfl
theorem i_rows : RowsI := fun o pre ho h9 => by
  refine Mt.of [some (.ref o)] (by decide +kernel) rfl rfl ?_
  show Gd _ _ _ _ _ _ _ (pre ++ [(4, [.null, .null, .null])]) _ _ _
  refine g_aload_n d_X4_init_0 rfl ?_
  refine g_obj d_X4_init_1 oi_4 (by decide) (by decide) ?_
  refine g_aload_n d_X4_init_4 rfl ?_
  refine g_bipush (v := 8) d_X4_init_5 (by decide +kernel) ?_
  refine b_newI (N := 8) (q := (o + 1)) (blk' := [(4, [.null, .null, .null]), (8, List.replicate 8 (.int 0))]) (nc' := 1) (ns' := 8) ho d_X4_init_7 (by decide) (by decide +kernel) rfl rfl rfl (by omega) rfl rfl (by decide) (by decide) ?_
  refine g_dup d_X4_init_9 rfl ?_
  refine g_iconst (v := 0) d_X4_init_10 (by decide +kernel) ?_
  refine g_iconst (v := (-1)) d_X4_init_11 (by decide +kernel) ?_
  refine b_iast (i := 1) (blk' := [(4, [.null, .null, .null]), (8, [(.int (-1)), (.int 0), (.int 0), (.int 0), (.int 0), (.int 0), (.int 0), (.int 0)])]) ho d_X4_init_12 rfl rfl (by unfold vp_in; decide) rfl ?_
  refine g_dup d_X4_init_13 rfl ?_
  refine g_iconst (v := 1) d_X4_init_14 (by decide +kernel) ?_
  refine g_iconst (v := (-1)) d_X4_init_15 (by decide +kernel) ?_
  refine b_iast (i := 1) (blk' := [(4, [.null, .null, .null]), (8, [(.int (-1)), (.int (-1)), (.int 0), (.int 0), (.int 0), (.int 0), (.int 0), (.int 0)])]) ho d_X4_init_16 rfl rfl (by unfold vp_in; decide) rfl ?_
  refine g_dup d_X4_init_17 rfl ?_
  refine g_iconst (v := 2) d_X4_init_18 (by decide +kernel) ?_
  refine g_iconst (v := (-1)) d_X4_init_19 (by decide +kernel) ?_
  refine b_iast (i := 1) (blk' := [(4, [.null, .null, .null]), (8, [(.int (-1)), (.int (-1)), (.int (-1)), (.int 0), (.int 0), (.int 0), (.int 0), (.int 0)])]) ho d_X4_init_20 rfl rfl (by unfold vp_in; decide) rfl ?_
  refine g_dup d_X4_init_21 rfl ?_
  refine g_iconst (v := 3) d_X4_init_22 (by decide +kernel) ?_
  refine g_iconst (v := (-1)) d_X4_init_23 (by decide +kernel) ?_
  refine b_iast (i := 1) (blk' := [(4, [.null, .null, .null]), (8, [(.int (-1)), (.int (-1)), (.int (-1)), (.int (-1)), (.int 0), (.int 0), (.int 0), (.int 0)])]) ho d_X4_init_24 rfl rfl (by unfold vp_in; decide) rfl ?_
  refine g_dup d_X4_init_25 rfl ?_
  refine g_iconst (v := 4) d_X4_init_26 (by decide +kernel) ?_
  refine g_iconst (v := (-1)) d_X4_init_27 (by decide +kernel) ?_
  refine b_iast (i := 1) (blk' := [(4, [.null, .null, .null]), (8, [(.int (-1)), (.int (-1)), (.int (-1)), (.int (-1)), (.int (-1)), (.int 0), (.int 0), (.int 0)])]) ho d_X4_init_28 rfl rfl (by unfold vp_in; decide) rfl ?_
  refine g_dup d_X4_init_29 rfl ?_
  refine g_iconst (v := 5) d_X4_init_30 (by decide +kernel) ?_
  refine g_iconst (v := (-1)) d_X4_init_31 (by decide +kernel) ?_
  refine b_iast (i := 1) (blk' := [(4, [.null, .null, .null]), (8, [(.int (-1)), (.int (-1)), (.int (-1)), (.int (-1)), (.int (-1)), (.int (-1)), (.int 0), (.int 0)])]) ho d_X4_init_32 rfl rfl (by unfold vp_in; decide) rfl ?_
  refine g_dup d_X4_init_33 rfl ?_
  refine g_bipush (v := 6) d_X4_init_34 (by decide +kernel) ?_
  refine g_iconst (v := (-1)) d_X4_init_36 (by decide +kernel) ?_
  refine b_iast (i := 1) (blk' := [(4, [.null, .null, .null]), (8, [(.int (-1)), (.int (-1)), (.int (-1)), (.int (-1)), (.int (-1)), (.int (-1)), (.int (-1)), (.int 0)])]) ho d_X4_init_37 rfl rfl (by unfold vp_in; decide) rfl ?_
  refine g_dup d_X4_init_38 rfl ?_
  refine g_bipush (v := 7) d_X4_init_39 (by decide +kernel) ?_
  refine g_iconst (v := (-1)) d_X4_init_41 (by decide +kernel) ?_
  refine b_iast (i := 1) (blk' := [(4, [.null, .null, .null]), (8, List.replicate 8 (.int (-1)))]) ho d_X4_init_42 rfl rfl (by unfold vp_in; decide) rfl ?_
  refine b_putF (i := 0) (blk' := [(4, [(.ref (o + 1)), .null, .null]), (8, List.replicate 8 (.int (-1)))]) ho d_X4_init_43 fl_4_11 rfl rfl rfl rfl (Nat.le_of_ble_eq_true rfl) rfl (fun _ _ => ⟨rfl, rfl⟩) ?_
  refine g_aload_n d_X4_init_46 rfl ?_
  refine g_bipush (v := 8) d_X4_init_47 (by decide +kernel) ?_
  refine b_newI (N := 8) (q := (o + 2)) (blk' := [(4, [(.ref (o + 1)), .null, .null]), (8, List.replicate 8 (.int (-1))), (8, List.replicate 8 (.int 0))]) (nc' := 2) (ns' := 16) ho d_X4_init_49 (by decide) (by decide +kernel) rfl rfl rfl (by omega) rfl rfl (by decide) (by decide) ?_
  refine b_putF (i := 0) (blk' := [(4, [(.ref (o + 1)), (.ref (o + 2)), .null]), (8, List.replicate 8 (.int (-1))), (8, List.replicate 8 (.int 0))]) ho d_X4_init_51 fl_4_15 rfl rfl rfl rfl (Nat.le_of_ble_eq_true rfl) rfl (fun _ _ => ⟨rfl, rfl⟩) ?_
  refine g_aload_n d_X4_init_54 rfl ?_
  refine g_bipush (v := 8) d_X4_init_55 (by decide +kernel) ?_
  refine g_bipush (v := 40) d_X4_init_57 (by decide +kernel) ?_
  refine b_mna (N := 8) (K := 40) (q := (o + 3)) (blk' := [(4, [(.ref (o + 1)), (.ref (o + 2)), .null]), (8, List.replicate 8 (.int (-1))), (8, List.replicate 8 (.int 0)), (11, [(.ref (o + 4)), (.ref (o + 5)), (.ref (o + 6)), (.ref (o + 7)), (.ref (o + 8)), (.ref (o + 9)), (.ref (o + 10)), (.ref (o + 11))]), (8, List.replicate 40 (.int 0)), (8, List.replicate 40 (.int 0)), (8, List.replicate 40 (.int 0)), (8, List.replicate 40 (.int 0)), (8, List.replicate 40 (.int 0)), (8, List.replicate 40 (.int 0)), (8, List.replicate 40 (.int 0)), (8, List.replicate 40 (.int 0))]) (nc' := 11) (ns' := 344) ho d_X4_init_59 hk_4_18 (by decide) (by decide) (by decide +kernel) (by decide +kernel) (by decide) (by decide) rfl (by omega) rfl (by decide) (by decide) rfl rfl ?_
  refine b_putF (i := 0) (blk' := [(4, [(.ref (o + 1)), (.ref (o + 2)), (.ref (o + 3))]), (8, List.replicate 8 (.int (-1))), (8, List.replicate 8 (.int 0)), (11, [(.ref (o + 4)), (.ref (o + 5)), (.ref (o + 6)), (.ref (o + 7)), (.ref (o + 8)), (.ref (o + 9)), (.ref (o + 10)), (.ref (o + 11))]), (8, List.replicate 40 (.int 0)), (8, List.replicate 40 (.int 0)), (8, List.replicate 40 (.int 0)), (8, List.replicate 40 (.int 0)), (8, List.replicate 40 (.int 0)), (8, List.replicate 40 (.int 0)), (8, List.replicate 40 (.int 0)), (8, List.replicate 40 (.int 0))]) ho d_X4_init_63 fl_4_20 rfl rfl rfl rfl (Nat.le_of_ble_eq_true rfl) rfl (fun _ _ => ⟨rfl, rfl⟩) ?_
  exact g_vret d_X4_init_66 rfl (by decide) (by decide) ⟨rfl, rfl⟩

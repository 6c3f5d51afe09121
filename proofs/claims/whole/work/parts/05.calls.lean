section Rules
variable {M : Meth} {d mc ms pc pc' : Nat} {L : List (Option Value)} {st : List Value} {hp : Hp} {nc ns : Nat} {P : Option Value → Hp → Prop}
theorem in_of {i : Int32} {vs : List Value} {v : Value} (h0 : ¬ i < 0) (hv : vs[i.toNatClampNeg]? = some v) : vp_in i vs.length := by
  intro h
  rcases h with h | h
  · exact h0 h
  · exact absurd (List.getElem?_eq_some_iff.mp hv).1 (by omega)
theorem getD_of {vs : List Value} {j : Nat} {v : Value} (hv : vs[j]? = some v) : vs.getD j .null = v := by
  rw [List.getD_eq_getElem?_getD, hv]
  rfl
theorem upd_set {vs : List Value} {j : Nat} (x : Int32) (hj : j < vs.length) : (fun q => iv ((vs.set j (.int x)).getD q .null)) = upd (fun q => iv (vs.getD q .null)) j x := by
  funext q
  unfold upd
  by_cases h : q = j
  · subst h
    rw [if_pos rfl, List.getD_eq_getElem?_getD, List.getElem?_set_self hj]
    rfl
  · rw [if_neg h, List.getD_eq_getElem?_getD, List.getElem?_set_ne (fun e => h e.symm), ← List.getD_eq_getElem?_getD]
theorem g_iald {o : Nat} {i x : Int32} {vs : List Value} (hd : Dc M.2.1 pc .iaload 1 pc') (ho : hp[o]? = some (8, vs)) (h0 : ¬ i < 0) (hv : vs[i.toNatClampNeg]? = some (.int x)) (k : Gd M d mc ms pc' L (.int x :: st) hp nc ns P) : Gd M d mc ms pc L (.int i :: .ref o :: st) hp nc ns P := by
  obtain ⟨h1, rfl⟩ := hd
  refine fun l p e s m args below meth c B S D cy H locs ls C hZ hW hS hL => ?_
  rw [List.map_cons, List.map_cons, stk_ref (wd_lt hW ho)]
  refine va_iald C.1 C.2.1 hW.2.2 hW.2.1 o 0 ((wO_at ho).trans (by rw [ce_int (by decide) (by decide)])) rfl (in_of h0 hv) h1 ?_
  have e0 : iv (vs.getD i.toNatClampNeg .null) = x := by rw [getD_of hv]; rfl
  rw [e0]
  exact k l p e s m args below meth c B S D cy H locs ls C hZ hW hS hL
theorem g_zald {o : Nat} {i x : Int32} {vs : List Value} (hd : Dc M.2.1 pc .baload 1 pc') (ho : hp[o]? = some (9, vs)) (h0 : ¬ i < 0) (hv : vs[i.toNatClampNeg]? = some (.int x)) (k : Gd M d mc ms pc' L (.int x :: st) hp nc ns P) : Gd M d mc ms pc L (.int i :: .ref o :: st) hp nc ns P := by
  obtain ⟨h1, rfl⟩ := hd
  refine fun l p e s m args below meth c B S D cy H locs ls C hZ hW hS hL => ?_
  rw [List.map_cons, List.map_cons, stk_ref (wd_lt hW ho)]
  refine va_zald C.1 C.2.1 hW.2.2 hW.2.1 o 1 ((wO_at ho).trans (by rw [ce_int (by decide) (by decide)])) rfl (in_of h0 hv) h1 ?_
  have e0 : iv (vs.getD i.toNatClampNeg .null) = x := by rw [getD_of hv]; rfl
  rw [e0]
  exact k l p e s m args below meth c B S D cy H locs ls C hZ hW hS hL
theorem g_iast {o : Nat} {i x : Int32} {vs : List Value} (hd : Dc M.2.1 pc .iastore 1 pc') (ho : hp[o]? = some (8, vs)) (h0 : vp_in i vs.length) (k : Gd M d mc ms pc' L st (hp.set o (8, vs.set i.toNatClampNeg (.int x))) nc ns P) : Gd M d mc ms pc L (.int x :: .int i :: .ref o :: st) hp nc ns P := by
  obtain ⟨h1, rfl⟩ := hd
  refine fun l p e s m args below meth c B S D cy H locs ls C hZ hW hS hL => ?_
  rw [List.map_cons, List.map_cons, List.map_cons, stk_ref (wd_lt hW ho)]
  refine va_iast C.1 C.2.1 hW.2.2 hW.2.1 wO_D hS o 0 ((wO_at ho).trans (by rw [ce_int (by decide) (by decide)])) rfl h0 h1 (fun H1 locs1 hP1 hD1 hS1 => ?_)
  have e0 : (wO B S cy hp).set o (B + o, .inl (cy 8, vs.length, .inl (upd (fun j => iv (vs.getD j .null)) i.toNatClampNeg x))) = wO B S cy (hp.set o (8, vs.set i.toNatClampNeg (.int x))) := by
    rw [← wO_set, ce_int (by decide) (by decide), List.length_set, upd_set _ (Nat.not_le.mp fun q => h0 (Or.inr q))]
  rw [e0] at hP1
  exact k l p e s m args below meth c B S D cy H1 locs1 ls C (by rw [List.length_set]; exact hZ) ⟨by rw [List.length_set]; exact hW.1, hP1, hW.2.2⟩ hS1 hL
theorem g_zast {o : Nat} {i x : Int32} {vs : List Value} (hd : Dc M.2.1 pc .bastore 1 pc') (ho : hp[o]? = some (9, vs)) (h0 : vp_in i vs.length) (k : Gd M d mc ms pc' L st (hp.set o (9, vs.set i.toNatClampNeg (.int (vp_nar .boolean x)))) nc ns P) : Gd M d mc ms pc L (.int x :: .int i :: .ref o :: st) hp nc ns P := by
  obtain ⟨h1, rfl⟩ := hd
  refine fun l p e s m args below meth c B S D cy H locs ls C hZ hW hS hL => ?_
  rw [List.map_cons, List.map_cons, List.map_cons, stk_ref (wd_lt hW ho)]
  refine va_zast C.1 C.2.1 hW.2.2 hW.2.1 wO_D hS o 1 ((wO_at ho).trans (by rw [ce_int (by decide) (by decide)])) rfl h0 h1 (fun H1 locs1 hP1 hD1 hS1 => ?_)
  have e0 : (wO B S cy hp).set o (B + o, .inl (cy 9, vs.length, .inl (upd (fun j => iv (vs.getD j .null)) i.toNatClampNeg (vp_nar .boolean x)))) = wO B S cy (hp.set o (9, vs.set i.toNatClampNeg (.int (vp_nar .boolean x)))) := by
    rw [← wO_set, ce_int (by decide) (by decide), List.length_set, upd_set _ (Nat.not_le.mp fun q => h0 (Or.inr q))]
  rw [e0] at hP1
  exact k l p e s m args below meth c B S D cy H1 locs1 ls C (by rw [List.length_set]; exact hZ) ⟨by rw [List.length_set]; exact hW.1, hP1, hW.2.2⟩ hS1 hL
theorem g_aaldH {o x : Nat} {i : Int32} {vs : List Value} (hd : Dc M.2.1 pc .aaload 1 pc') (ho : hp[o]? = some (10, vs)) (h0 : ¬ i < 0) (hv : vs[i.toNatClampNeg]? = some (.ref x)) (k : Gd M d mc ms pc' L (.ref x :: st) hp nc ns P) : Gd M d mc ms pc L (.int i :: .ref o :: st) hp nc ns P := by
  obtain ⟨h1, rfl⟩ := hd
  refine fun l p e s m args below meth c B S D cy H locs ls C hZ hW hS hL => ?_
  rw [List.map_cons, List.map_cons, stk_ref (wd_lt hW ho)]
  have hin := in_of h0 hv
  have hlt : i.toNatClampNeg < vs.length := Nat.not_le.mp fun q => hin (Or.inr q)
  have hcell : H[B + o]? = some (vp_cell (cy 10) (vs.length, .inr (.inr (.inr (.inr (fun j => rv B S (vs.getD j .null))))))) := by
    have h9 := hW.2.1 o _ (wO_at ho)
    rw [ce_ref (by decide)] at h9
    exact h9
  refine W.aald (v := .ref (ad B S x)) (ty := .object RX2) C.1 C.2.1 hcell ((hW.2.2.2 2 _ rfl).1 vs.length (fun j => va_rf (rv B S (vs.getD j .null)))) rfl (fun q => by cases q) (by show ¬ (i < 0 ∨ (arrV _ _ _).slots.size ≤ _); rw [arrV_size]; exact hin) (by show (arrV _ _ _).slots[_]? = _; rw [arrV_read _ _ hlt]; show some (va_rf (rv B S (vs.getD i.toNatClampNeg .null))) = _; rw [getD_of hv]; rfl) rfl rfl h1 ?_
  exact k l p e s m args below meth c B S D cy H locs ls C hZ hW hS hL
theorem g_aaldI {o x : Nat} {i : Int32} {vs : List Value} (hd : Dc M.2.1 pc .aaload 1 pc') (ho : hp[o]? = some (11, vs)) (h0 : ¬ i < 0) (hv : vs[i.toNatClampNeg]? = some (.ref x)) (k : Gd M d mc ms pc' L (.ref x :: st) hp nc ns P) : Gd M d mc ms pc L (.int i :: .ref o :: st) hp nc ns P := by
  obtain ⟨h1, rfl⟩ := hd
  refine fun l p e s m args below meth c B S D cy H locs ls C hZ hW hS hL => ?_
  rw [List.map_cons, List.map_cons, stk_ref (wd_lt hW ho)]
  have hin := in_of h0 hv
  have hlt : i.toNatClampNeg < vs.length := Nat.not_le.mp fun q => hin (Or.inr q)
  have hcell : H[B + o]? = some (vp_cell (cy 11) (vs.length, .inr (.inr (.inr (.inr (fun j => rv B S (vs.getD j .null))))))) := by
    have h9 := hW.2.1 o _ (wO_at ho)
    rw [ce_ref (by decide)] at h9
    exact h9
  refine W.aald (v := .ref (ad B S x)) (ty := .array .int) C.1 C.2.1 hcell ((hW.2.2.2 3 _ rfl).1 vs.length (fun j => va_rf (rv B S (vs.getD j .null)))) rfl (fun q => by cases q) (by show ¬ (i < 0 ∨ (arrV _ _ _).slots.size ≤ _); rw [arrV_size]; exact hin) (by show (arrV _ _ _).slots[_]? = _; rw [arrV_read _ _ hlt]; show some (va_rf (rv B S (vs.getD i.toNatClampNeg .null))) = _; rw [getD_of hv]; rfl) rfl rfl h1 ?_
  exact k l p e s m args below meth c B S D cy H locs ls C hZ hW hS hL
theorem g_gets {idx j : Nat} (hd : Dc M.2.1 pc (.getstatic idx) 3 pc') (hj : j < 3) (hl : Cond.fieldLink M.1.cls idx RX6 (sN j) "[I" ∈ TT) (k : Gd M d mc ms pc' L (.ref (1000000 + j) :: st) hp nc ns P) : Gd M d mc ms pc L st hp nc ns P := by
  obtain ⟨h1, rfl⟩ := hd
  refine fun l p e s m args below meth c B S D cy H locs ls C hZ hW hS hL => ?_
  have e0 : ad B S (1000000 + j) = S j := by
    unfold ad
    rw [if_neg (by omega), Nat.add_sub_cancel_left]
  have kk := k l p e s m args below meth c B S D cy H locs ls C hZ hW hS hL
  rw [List.map_cons, show cv B S (.ref (1000000 + j)) = .ref (S j) from congrArg Value.ref e0] at kk
  exact va_gets C.1 C.2.1 (C.2.2.2.2.2.2.2.2.1 j hj).1 hS C.2.2.2.2.1 (C.2.2.2.2.2.1 _ hl) (fun x hx => hx) h1 kk
theorem g_getsN {idx j : Nat} (hd : Dc M.2.1 pc (.getstatic idx) 3 pc') (hj : j < 3) (hl : Cond.fieldLinkNest M.1.cls idx RX6 (sN j) "[I" RX6 ∈ NW) (k : Gd M d mc ms pc' L (.ref (1000000 + j) :: st) hp nc ns P) : Gd M d mc ms pc L st hp nc ns P := by
  obtain ⟨h1, rfl⟩ := hd
  refine fun l p e s m args below meth c B S D cy H locs ls C hZ hW hS hL => ?_
  have e0 : ad B S (1000000 + j) = S j := by
    unfold ad
    rw [if_neg (by omega), Nat.add_sub_cancel_left]
  have kk := k l p e s m args below meth c B S D cy H locs ls C hZ hW hS hL
  rw [List.map_cons, show cv B S (.ref (1000000 + j)) = .ref (S j) from congrArg Value.ref e0] at kk
  exact va_getsN C.1 C.2.1 (C.2.2.2.2.2.2.2.2.1 j hj).1 hS C.2.2.2.2.1 (va_Nw.use rfl (C.2.2.2.2.2.2.2.2.2.1.1 _ hl)) (fun x hx => hx) h1 kk
theorem g_tald {j : Nat} {i : Int32} (hd : Dc M.2.1 pc .iaload 1 pc') (hj : j < 3) (h0 : vp_in i 6) (k : Gd M d mc ms pc' L (.int (sT j i.toNatClampNeg) :: st) hp nc ns P) : Gd M d mc ms pc L (.int i :: .ref (1000000 + j) :: st) hp nc ns P := by
  obtain ⟨h1, rfl⟩ := hd
  refine fun l p e s m args below meth c B S D cy H locs ls C hZ hW hS hL => ?_
  have e0 : ad B S (1000000 + j) = S j := by
    unfold ad
    rw [if_neg (by omega), Nat.add_sub_cancel_left]
  rw [List.map_cons, List.map_cons, show cv B S (.ref (1000000 + j)) = .ref (S j) from congrArg Value.ref e0]
  exact va_ti C.1 C.2.1 (C.2.2.2.2.2.2.2.2.1 j hj).2 hS h0 rfl h1 (k l p e s m args below meth c B S D cy H locs ls C hZ hW hS hL)
theorem g_tlen {j : Nat} (hd : Dc M.2.1 pc .arraylength 1 pc') (hj : j < 3) (k : Gd M d mc ms pc' L (.int 6 :: st) hp nc ns P) : Gd M d mc ms pc L (.ref (1000000 + j) :: st) hp nc ns P := by
  obtain ⟨h1, rfl⟩ := hd
  refine fun l p e s m args below meth c B S D cy H locs ls C hZ hW hS hL => ?_
  have e0 : ad B S (1000000 + j) = S j := by
    unfold ad
    rw [if_neg (by omega), Nat.add_sub_cancel_left]
  rw [List.map_cons, show cv B S (.ref (1000000 + j)) = .ref (S j) from congrArg Value.ref e0]
  exact va_tlen C.1 C.2.1 (C.2.2.2.2.2.2.2.2.1 j hj).2 hS (by decide) h1 (k l p e s m args below meth c B S D cy H locs ls C hZ hW hS hL)
def cpyV (vs ws : List Value) (sp dp n : Nat) : List Value := (List.range ws.length).map (fun j => if dp ≤ j ∧ j < dp + n then vs.getD (sp + (j - dp)) .null else ws.getD j .null)
theorem cpyV_len (vs ws : List Value) (sp dp n : Nat) : (cpyV vs ws sp dp n).length = ws.length := by
  unfold cpyV
  rw [List.length_map, List.length_range]
theorem cpyV_iv (vs ws : List Value) (sp dp n : Nat) (h : dp + n ≤ ws.length) : (fun j => iv ((cpyV vs ws sp dp n).getD j .null)) = va_cpy (fun j => iv (vs.getD j .null)) (fun j => iv (ws.getD j .null)) sp dp n := by
  funext j
  unfold cpyV va_cpy
  rw [List.getD_eq_getElem?_getD, List.getElem?_map]
  by_cases hj : j < ws.length
  · rw [List.getElem?_range hj]
    by_cases hc : dp ≤ j ∧ j < dp + n
    · simp [hc]
    · simp [hc]
  · rw [List.getElem?_eq_none (by rw [List.length_range]; omega), if_neg (by omega)]
    show _ = iv (ws.getD j .null)
    rw [List.getD_eq_getElem?_getD, List.getElem?_eq_none (by omega)]
    rfl
def ACopy (own : String) (idx : Nat) : Prop := Cond.methodLink own idx arraycopyName ∈ TT ∧ Cond.native arraycopyName ∈ TT ∧ Cond.static arraycopyName ∈ TT ∧ Cond.initialized "java/lang/System" ∈ TT
theorem g_copy {idx a b : Nat} {sp dp n : Int32} {vs ws : List Value} (hd : Dc M.2.1 pc (.invokestatic idx) 3 pc') (hc : ACopy M.1.cls idx) (ha : hp[a]? = some (8, vs)) (hb : hp[b]? = some (8, ws)) (h1 : ¬ sp < 0) (h2 : ¬ dp < 0) (h3 : ¬ n < 0) (h4 : sp.toNatClampNeg + n.toNatClampNeg ≤ vs.length) (h5 : dp.toNatClampNeg + n.toNatClampNeg ≤ ws.length) (hd1 : 1 ≤ d) (hst : (st.map fun v => v.category).sum ≤ 8)
    (k : Gd M d mc ms pc' L st (hp.set b (8, cpyV vs ws sp.toNatClampNeg dp.toNatClampNeg n.toNatClampNeg)) nc ns P) : Gd M d mc ms pc L (.int n :: .int dp :: .ref b :: .int sp :: .ref a :: st) hp nc ns P := by
  obtain ⟨h0, rfl⟩ := hd
  refine fun l p e s m args below meth c B S D cy H locs ls C hZ hW hS hL => ?_
  simp only [List.map_cons]
  rw [stk_ref (wd_lt hW ha), stk_ref (wd_lt hW hb)]
  have hst2 : ((st.map (cv B S)).map fun v => v.category).sum ≤ 8 := by
    rw [List.map_map]
    have e : ((fun v : Value => v.category) ∘ cv B S) = fun v => v.category := funext fun v => cv_cat B S v
    rw [e]
    exact hst
  have hlo : ((st.map (cv B S)).map fun v => v.category).sum + (nativeFrameWords "java/lang/System" "arraycopy" 5 + 11) ≤ (Rm d mc ms).locals := by
    have h9 : nativeFrameWords "java/lang/System" "arraycopy" 5 + 11 ≤ 60 := by decide
    show _ ≤ 100 * d
    omega
  refine va_copyi C.1 C.2.1 (C.2.2.2.1.trans hL.1.symm) C.2.2.2.2.1 (C.2.2.2.2.2.1 _ hc.1) (C.2.2.2.2.2.1 _ hc.2.1) (C.2.2.2.2.2.1 _ hc.2.2.1) (C.2.2.2.2.2.1 _ hc.2.2.2) hW.2.2 hW.2.1 wO_D hS a b 0 0 ((wO_at ha).trans (by rw [ce_int (by decide) (by decide)])) ((wO_at hb).trans (by rw [ce_int (by decide) (by decide)])) rfl rfl rfl h1 h2 h3 h4 h5 (fun i _ => rfl) hd1 hlo h0 (fun H1 locs1 hP1 hD1 hS1 => ?_)
  have e0 : (wO B S cy hp).set b (B + b, .inl (cy 8, ws.length, .inl (va_cpy (fun j => iv (vs.getD j .null)) (fun j => iv (ws.getD j .null)) sp.toNatClampNeg dp.toNatClampNeg n.toNatClampNeg))) = wO B S cy (hp.set b (8, cpyV vs ws sp.toNatClampNeg dp.toNatClampNeg n.toNatClampNeg)) := by
    rw [← wO_set, ce_int (by decide) (by decide), cpyV_len, cpyV_iv _ _ _ _ _ h5]
  rw [e0] at hP1
  exact k l p e s m args below meth c B S D cy H1 locs1 ls C (by rw [List.length_set]; exact hZ) ⟨by rw [List.length_set]; exact hW.1, hP1, hW.2.2⟩ hS1 hL
def CLc (N : Meth) (n : Nat) : Prop := Cond.initialized N.1.cls ∈ TT ∧ Cond.code N.1 N.2.1 N.2.2.1 N.2.2.2 ∈ TT ∧ (N.1.cls ≠ "java/lang/invoke/MethodHandle" ∧ N.1.cls ≠ "java/lang/invoke/VarHandle" ∧ (parseMethodDescriptor N.1.desc).map (fun d => d.parameters.length) = some n) ∧ N.2.2.1 ≤ 60
def CLV (own : String) (idx : Nat) (N : Meth) (n : Nat) : Prop := Cond.methodLink own idx N.1 ∈ TT ∧ Cond.instanceMethod N.1 ∈ TT ∧ Cond.selects N.1.cls N.1 N.1 ∈ TT ∧ CLc N n
def CLS (own : String) (idx : Nat) (N : Meth) (n : Nat) : Prop := Cond.methodLink own idx N.1 ∈ TT ∧ Cond.static N.1 ∈ TT ∧ CLc N n
def CLI (own : String) (idx : Nat) (N : Meth) (n : Nat) : Prop := Cond.methodLink own idx N.1 ∈ TT ∧ Cond.instanceMethod N.1 ∈ TT ∧ N.1.name = "<init>" ∧ N.2.2.2 = none ∧ CLc N n
def CLJ (own : String) (idx : Nat) (N : Meth) (n : Nat) : Prop := Cond.methodLinkNest own idx N.1 RX6 ∈ NW ∧ Cond.instanceMethod N.1 ∈ TT ∧ N.1.name = "<init>" ∧ N.2.2.2 = none ∧ CLc N n
theorem goodM {N : Meth} {n : Nat} (h : CLc N n) : GoodIn TT (wM N) := fun w hw => by
  rcases List.mem_cons.mp hw with rfl | hw
  · exact tt_good _ h.2.1
  · exact tt_good w hw
theorem stW {B : Nat} {S : Nat → Nat} {st : List Value} {m : MethodId} {pc : Nat} {ls : Array Slot} {r : List Value} (hst : (st.map fun v => v.category).sum ≤ 8) : 2 * (F0 m pc ls r).monitorRoom + ((st.map (cv B S)).map fun v => v.category).sum ≤ 8 := by
  refine lv_room ?_
  rw [List.map_map]
  have e : ((fun v : Value => v.category) ∘ cv B S) = fun v => v.category := funext fun v => cv_cat B S v
  rw [e]
  exact hst
theorem blindM {B : Nat} {S : Nat → Nat} {D : va_G} {cy : Nat → ClassId} {hp : Hp} {As : List Value} : FrameBlind (va_Pc As (fun U => U.heap.size = B + hp.length ∧ Wd B S D cy hp U U.heap ∧ Sd B S U U.heap ∧ Nx U)) := fun a U g mk q =>
  ⟨q.1, q.2.1, ⟨q.2.2.1.1, q.2.2.1.2.1, va_K.moved (u := U) (U := U.calling g mk a) (Vm.Alike.refl U.vm) q.2.2.1.2.2⟩, sd_moved (u := U) (U := U.calling g mk a) (Vm.Alike.refl U.vm) q.2.2.2.1, nx_same (s := U) (U := U.calling g mk a) rfl q.2.2.2.2⟩
/-- behind a call -/
theorem behind_call {mc' ms' : Nat} {P' : Option Value → Hp → Prop} {l : Launch} {p : Program} {e : Env} {s : State} {m : MethodId} {args : Array Value} {below : List Frame} {meth : Method} {c : Code} {B : Nat} {S : Nat → Nat} {D : va_G} {cy : Nat → ClassId} {H : Heap} {locs : List Loc} {ls : Array Slot} {a : Array Value} {stk : List Value}
    (C : Cx M p s m args meth c B S) (hZ : s.heap.size + nc = B + hp.length) (hW : Wd B S D cy hp s H) (hS : va_S (fun q => B ≤ q) s.heap H locs) (hL : Lh M B S ls L)
    (hlen : ∀ v hp', P' v hp' → hp'.length = hp.length + mc') (k : ∀ v hp', P' v hp' → Gd M d mc ms (pc + 3) L (v.toList ++ st) hp' (nc + mc') (ns + ms') P)
    (hr : va_Run p l e (Rm d mc ms) s m args below meth c H locs nc ns mc' ms' (F0 m pc ls stk) (st.map (cv B S)) (Qm B S D cy P' a) (fun q => B ≤ q)) :
    W p l e (Rm d mc ms) s m args below meth c H locs nc ns (MQ below (Qm B S D cy P) args s mc ms (fun q => B ≤ q)) (F0 m pc ls stk) := by
  intro T hT X
  obtain ⟨v, st₀, t, T', Lc, h0, X', hLc, e1, e2, ⟨⟨v', hp', hv, hP', hWd'⟩, hz, hk⟩, stp⟩ := hr T hT X
  cases hv
  rw [h0] at hz hk
  have kk := k v' hp' hP' l p e s m args below meth c B S D cy T'.heap (locs ++ Lc) ls C (by rw [hlen v' hp' hP']; omega) ⟨hWd'.1, by rw [e1]; exact hWd'.2.1, hW.2.2⟩ ⟨Nat.le_trans hS.1 (by rw [e1]; exact hz), fun q h1 h2 => by rw [e1, hk q (Nat.lt_of_lt_of_le h1 hS.1) h2]; exact hS.2.1 q h1 h2, fun q hq => by
      rcases List.mem_append.mp hq with h | h
      · exact hS.2.2 q h
      · exact hLc q h⟩ hL
  obtain ⟨t2, a1, b1⟩ := kk T' rfl X'
  refine ⟨t2, stp t2 ?_, b1⟩
  have e3 : (v'.map (cv B S)).toList ++ st.map (cv B S) = (v'.toList ++ st).map (cv B S) := by cases v' <;> simp
  rw [e3]
  exact a1
theorem g_callV {N : Meth} {idx n d' mc' ms' o ci : Nat} {As vs : List Value} {P' : Option Value → Hp → Prop} {q : vw_C} (hd : Dc M.2.1 pc (.invokevirtual idx) 3 pc') (hc : CLV M.1.cls idx N n) (hN : Mt N d' mc' ms' (.ref o :: As) hp P') (ho : hp[o]? = some (ci, vs)) (hci : ci < 8) (hq : vwCl[ci]? = some q) (hq1 : q.1 = N.1.cls) (hn : As.length = n) (hst : (st.map fun v => v.category).sum ≤ 8) (hd' : d' + 1 ≤ d) (hmc : nc + mc' ≤ mc) (hms : ns + ms' ≤ ms) (hlen : ∀ v hp', P' v hp' → hp'.length = hp.length + mc') (k : ∀ v hp', P' v hp' → Gd M d mc ms pc' L (v.toList ++ st) hp' (nc + mc') (ns + ms') P) : Gd M d mc ms pc L (As.reverse ++ .ref o :: st) hp nc ns P := by
  obtain ⟨h1, rfl⟩ := hd
  refine fun l p e s m args below meth c B S D cy H locs ls C hZ hW hS hL => ?_
  intro T hT X
  have hsz : H.size = B + hp.length := by
    have g1 := X.heapSize
    rw [hT] at g1
    have g2 := wd_le hW (Nat.le_trans C.2.2.2.2.2.2.2.2.2.2 hS.1)
    omega
  refine behind_call C hZ hW hS hL hlen k (va_runV (As := As.map (cv B S)) (C := N.1.cls) (b := B + o) (bytes := N.2.1) (maxL := N.2.2.1) (ret := N.2.2.2) (n := n) ⟨C.1, C.2.1, C.2.2.2.1, C.2.2.2.2.1, C.2.2.2.2.2.1⟩ (hN l B S D cy) ⟨callB_of n C.2.2.2.2.2.1 (goodM hc.2.2.2) rfl rfl rfl (C.2.2.2.2.2.1 _ hc.2.2.2.1) (C.2.2.2.2.2.1 _ hc.1) hc.2.2.2.2.2.1 ⟨hd', by show 8 + (N.2.2.1 + 11) + 100 * d' ≤ 100 * d; have := hc.2.2.2.2.2.2; omega⟩, C.2.2.2.2.2.1 _ hc.2.1, C.2.2.2.2.2.1 _ hc.2.2.1⟩ ⟨blindM, ?_, ?_⟩ rfl (by rw [List.length_map]; exact hn) hL.1 ?_ (stW hst) h1 ⟨hmc, hms⟩) T hT X
  · obtain ⟨cell, g1, g2, g3⟩ := va_recv hW.2.2 hW.2.1 (q := q) (ci := ci) (q0 := o) (a := B + o) hq ((wO_at ho).trans (by rw [ce_obj hci]))
    exact ⟨cell, g1, g2, by rw [← hq1]; exact g3⟩
  · exact fun U hU hWm => ⟨by rw [List.map_cons, stk_ref (wd_lt hW ho)], by rw [hU]; exact hsz, ⟨hW.1, by rw [hU]; exact hW.2.1, va_K.moved hWm.alike hW.2.2⟩, sd_moved hWm.alike (by rw [hU]; exact sd_kept C.2.2.2.2.2.2.2.2.1 hS.2.1), nx_warm hWm C.2.2.2.2.2.2.2.2.2.1⟩
  · show ((As.reverse ++ .ref o :: st).map (cv B S)) = _
    rw [List.map_append, List.map_reverse, List.map_cons, stk_ref (wd_lt hW ho)]
theorem g_callS {N : Meth} {idx n d' mc' ms' : Nat} {As : List Value} {P' : Option Value → Hp → Prop} (hd : Dc M.2.1 pc (.invokestatic idx) 3 pc') (hc : CLS M.1.cls idx N n) (hN : Mt N d' mc' ms' As hp P') (hn : As.length = n) (hst : (st.map fun v => v.category).sum ≤ 8) (hd' : d' + 1 ≤ d) (hmc : nc + mc' ≤ mc) (hms : ns + ms' ≤ ms) (hlen : ∀ v hp', P' v hp' → hp'.length = hp.length + mc') (k : ∀ v hp', P' v hp' → Gd M d mc ms pc' L (v.toList ++ st) hp' (nc + mc') (ns + ms') P) : Gd M d mc ms pc L (As.reverse ++ st) hp nc ns P := by
  obtain ⟨h1, rfl⟩ := hd
  refine fun l p e s m args below meth c B S D cy H locs ls C hZ hW hS hL => ?_
  intro T hT X
  have hsz : H.size = B + hp.length := by
    have g1 := X.heapSize
    rw [hT] at g1
    have g2 := wd_le hW (Nat.le_trans C.2.2.2.2.2.2.2.2.2.2 hS.1)
    omega
  refine behind_call C hZ hW hS hL hlen k (va_runS (As := As.map (cv B S)) (bytes := N.2.1) (maxL := N.2.2.1) (ret := N.2.2.2) (n := n) ⟨C.1, C.2.1, C.2.2.2.1, C.2.2.2.2.1, C.2.2.2.2.2.1⟩ (hN l B S D cy) ⟨callB_of n C.2.2.2.2.2.1 (goodM hc.2.2) rfl rfl rfl (C.2.2.2.2.2.1 _ hc.2.2.1) (C.2.2.2.2.2.1 _ hc.1) hc.2.2.2.2.1 ⟨hd', by show 8 + (N.2.2.1 + 11) + 100 * d' ≤ 100 * d; have := hc.2.2.2.2.2; omega⟩, C.2.2.2.2.2.1 _ hc.2.1⟩ ⟨blindM, ?_⟩ rfl (by rw [List.length_map]; exact hn) hL.1 ?_ (stW hst) h1 ⟨hmc, hms⟩) T hT X
  · exact fun U hU hWm => ⟨rfl, by rw [hU]; exact hsz, ⟨hW.1, by rw [hU]; exact hW.2.1, va_K.moved hWm.alike hW.2.2⟩, sd_moved hWm.alike (by rw [hU]; exact sd_kept C.2.2.2.2.2.2.2.2.1 hS.2.1), nx_warm hWm C.2.2.2.2.2.2.2.2.2.1⟩
  · show ((As.reverse ++ st).map (cv B S)) = _
    rw [List.map_append, List.map_reverse]
theorem g_callI {N : Meth} {idx n d' mc' ms' o : Nat} {As : List Value} {P' : Option Value → Hp → Prop} {q : Nat × List Value} (hd : Dc M.2.1 pc (.invokespecial idx) 3 pc') (hc : CLI M.1.cls idx N n) (hN : Mt N d' mc' ms' (.ref o :: As) hp P') (ho : hp[o]? = some q) (hn : As.length = n) (hst : (st.map fun v => v.category).sum ≤ 8) (hd' : d' + 1 ≤ d) (hmc : nc + mc' ≤ mc) (hms : ns + ms' ≤ ms) (hlen : ∀ v hp', P' v hp' → hp'.length = hp.length + mc') (k : ∀ v hp', P' v hp' → Gd M d mc ms pc' L (v.toList ++ st) hp' (nc + mc') (ns + ms') P) : Gd M d mc ms pc L (As.reverse ++ .ref o :: st) hp nc ns P := by
  obtain ⟨h1, rfl⟩ := hd
  refine fun l p e s m args below meth c B S D cy H locs ls C hZ hW hS hL => ?_
  intro T hT X
  have hsz : H.size = B + hp.length := by
    have g1 := X.heapSize
    rw [hT] at g1
    have g2 := wd_le hW (Nat.le_trans C.2.2.2.2.2.2.2.2.2.2 hS.1)
    omega
  refine behind_call C hZ hW hS hL hlen k (va_runI (As := As.map (cv B S)) (b := B + o) (bytes := N.2.1) (maxL := N.2.2.1) (n := n) ⟨C.1, C.2.1, C.2.2.2.1, C.2.2.2.2.1, C.2.2.2.2.2.1⟩ (hN l B S D cy) ⟨callB_of n C.2.2.2.2.2.1 (goodM hc.2.2.2.2) (by rw [wM, hc.2.2.2.1]) rfl rfl (C.2.2.2.2.2.1 _ hc.2.2.2.2.1) (C.2.2.2.2.2.1 _ hc.1) hc.2.2.2.2.2.2.1 ⟨hd', by show 8 + (N.2.2.1 + 11) + 100 * d' ≤ 100 * d; have := hc.2.2.2.2.2.2.2; omega⟩, hc.2.2.1, C.2.2.2.2.2.1 _ hc.2.1⟩ ⟨blindM, ?_⟩ rfl (by rw [List.length_map]; exact hn) hL.1 ?_ (stW hst) h1 ⟨hmc, hms⟩) T hT X
  · exact fun U hU hWm => ⟨by rw [List.map_cons, stk_ref (wd_lt hW ho)], by rw [hU]; exact hsz, ⟨hW.1, by rw [hU]; exact hW.2.1, va_K.moved hWm.alike hW.2.2⟩, sd_moved hWm.alike (by rw [hU]; exact sd_kept C.2.2.2.2.2.2.2.2.1 hS.2.1), nx_warm hWm C.2.2.2.2.2.2.2.2.2.1⟩
  · show ((As.reverse ++ .ref o :: st).map (cv B S)) = _
    rw [List.map_append, List.map_reverse, List.map_cons, stk_ref (wd_lt hW ho)]
theorem g_callJ {N : Meth} {idx n d' mc' ms' o : Nat} {As : List Value} {P' : Option Value → Hp → Prop} {q : Nat × List Value} (hd : Dc M.2.1 pc (.invokespecial idx) 3 pc') (hc : CLJ M.1.cls idx N n) (hN : Mt N d' mc' ms' (.ref o :: As) hp P') (ho : hp[o]? = some q) (hn : As.length = n) (hst : (st.map fun v => v.category).sum ≤ 8) (hd' : d' + 1 ≤ d) (hmc : nc + mc' ≤ mc) (hms : ns + ms' ≤ ms) (hlen : ∀ v hp', P' v hp' → hp'.length = hp.length + mc') (k : ∀ v hp', P' v hp' → Gd M d mc ms pc' L (v.toList ++ st) hp' (nc + mc') (ns + ms') P) : Gd M d mc ms pc L (As.reverse ++ .ref o :: st) hp nc ns P := by
  obtain ⟨h1, rfl⟩ := hd
  refine fun l p e s m args below meth c B S D cy H locs ls C hZ hW hS hL => ?_
  intro T hT X
  have hsz : H.size = B + hp.length := by
    have g1 := X.heapSize
    rw [hT] at g1
    have g2 := wd_le hW (Nat.le_trans C.2.2.2.2.2.2.2.2.2.2 hS.1)
    omega
  refine behind_call C hZ hW hS hL hlen k (va_runIN (As := As.map (cv B S)) (b := B + o) (bytes := N.2.1) (maxL := N.2.2.1) (n := n) (host := RX6) ⟨C.1, C.2.1, C.2.2.2.1, C.2.2.2.2.1, C.2.2.2.2.2.1⟩ (hN l B S D cy) ⟨va_cnB n C.2.2.2.2.2.1 (goodM hc.2.2.2.2) (by rw [wM, hc.2.2.2.1]) rfl rfl (C.2.2.2.2.2.2.2.2.2.1.1 _ hc.1) (C.2.2.2.2.2.1 _ hc.2.2.2.2.1) hc.2.2.2.2.2.2.1 ⟨hd', by show 8 + (N.2.2.1 + 11) + 100 * d' ≤ 100 * d; have := hc.2.2.2.2.2.2.2; omega⟩, hc.2.2.1, C.2.2.2.2.2.1 _ hc.2.1⟩ ⟨blindM, ?_⟩ rfl (by rw [List.length_map]; exact hn) hL.1 ?_ (stW hst) h1 ⟨hmc, hms⟩) T hT X
  · exact fun U hU hWm => ⟨by rw [List.map_cons, stk_ref (wd_lt hW ho)], by rw [hU]; exact hsz, ⟨hW.1, by rw [hU]; exact hW.2.1, va_K.moved hWm.alike hW.2.2⟩, sd_moved hWm.alike (by rw [hU]; exact sd_kept C.2.2.2.2.2.2.2.2.1 hS.2.1), nx_warm hWm C.2.2.2.2.2.2.2.2.2.1⟩
  · show ((As.reverse ++ .ref o :: st).map (cv B S)) = _
    rw [List.map_append, List.map_reverse, List.map_cons, stk_ref (wd_lt hW ho)]
end Rules

/-! RULES OF CONSTRUCTORS -/
theorem pin {B nc : Nat} {S : Nat → Nat} {D : va_G} {cy : Nat → ClassId} {hp : Hp} {s : State} {q : Nat} {x : va_E} {H1 : Heap} (hZ : s.heap.size + nc = B + hp.length) (hP : va_P D vwCl (wO B S cy hp ++ [(q, x)]) H1) (hD : va_D (fun q => B ≤ q) (wO B S cy hp ++ [(q, x)])) (hs : H1.size ≤ s.heap.size + (nc + 1)) : q = B + hp.length := by
  have hl : (wO B S cy hp).length = hp.length := by
    unfold wO
    rw [List.length_mapIdx]
  have hq : (wO B S cy hp ++ [(q, x)])[hp.length]? = some (q, x) := by
    rw [List.getElem?_append_right (by omega), hl, Nat.sub_self]
    rfl
  have h1 : q < H1.size := (hP _ _ hq).lt
  have h2 : B ≤ q := hD.2 _ _ hq
  by_cases h3 : q = B + hp.length
  · exact h3
  · have hi : q - B < hp.length := by omega
    have hc : hp[q - B]? = some (hp[q - B]'hi) := List.getElem?_eq_getElem hi
    have hw := wO_at (B := B) (S := S) (cy := cy) hc
    have hw2 : (wO B S cy hp ++ [(q, x)])[q - B]? = some (B + (q - B), ce B S cy (hp[q - B]'hi)) := by
      rw [List.getElem?_append_left (by omega)]
      exact hw
    have := hD.1 _ _ _ _ hw2 hq (by show B + (q - B) = q; omega)
    omega
section Rules
variable {M : Meth} {d mc ms pc pc' : Nat} {L : List (Option Value)} {st : List Value} {hp : Hp} {nc ns : Nat} {P : Option Value → Hp → Prop}
/-- a cell more -/
theorem grow {ns' : Nat} {l : Launch} {p : Program} {e : Env} {s : State} {m : MethodId} {args : Array Value} {below : List Frame} {meth : Method} {c : Code} {B : Nat} {S : Nat → Nat} {D : va_G} {cy : Nat → ClassId} {H1 : Heap} {locs : List Loc} {ls : Array Slot} {q : Nat} {x : Nat × List Value} {ex : va_E} (he : ex = ce B S cy x) (hn : Nat.ble (hp.length + 1) 1000000 = true) (k : Gd M d mc ms pc' L (.ref hp.length :: st) (hp ++ [x]) (nc + 1) ns' P)
    (C : Cx M p s m args meth c B S) (hZ : s.heap.size + nc = B + hp.length) (hK : va_K D vwCl (tyl cy) s) (hL : Lh M B S ls L) (hP : va_P D vwCl (wO B S cy hp ++ [(q, ex)]) H1) (hD : va_D (fun q => B ≤ q) (wO B S cy hp ++ [(q, ex)])) (hS : va_S (fun q => B ≤ q) s.heap H1 locs) :
    W p l e (Rm d mc ms) s m args below meth c H1 locs (nc + 1) ns' (MQ below (Qm B S D cy P) args s mc ms (fun q => B ≤ q)) (F0 m pc' ls (.ref q :: st.map (cv B S))) := by
  intro T hT X
  have hz := X.heapSize
  rw [hT] at hz
  have hq := pin hZ hP hD hz
  subst hq
  subst he
  have hn2 := Nat.le_of_ble_eq_true hn
  rw [wO_push] at hP
  have kk := k l p e s m args below meth c B S D cy H1 locs ls C (by rw [List.length_append, List.length_singleton]; omega) ⟨by rw [List.length_append, List.length_singleton]; omega, hP, hK⟩ hS hL
  rw [List.map_cons, stk_ref (by omega)] at kk
  exact kk T hT X
def OI (own : String) (idx : Nat) : Prop := Cond.methodLink own idx objectInit ∈ TT ∧ Cond.instanceMethod objectInit ∈ TT ∧ Cond.code objectInit { data := #[177] } 1 none ∈ TT
theorem g_obj {idx a : Nat} (hd : Dc M.2.1 pc (.invokespecial idx) 3 pc') (hc : OI M.1.cls idx) (hd1 : 1 ≤ d) (hst : (st.map fun v => v.category).sum ≤ 8) (k : Gd M d mc ms pc' L st hp nc ns P) : Gd M d mc ms pc L (.ref a :: st) hp nc ns P := by
  obtain ⟨h1, rfl⟩ := hd
  refine fun l p e s m args below meth c B S D cy H locs ls C hZ hW hS hL => ?_
  have h8 := stW (B := B) (S := S) (m := m) (pc := pc) (ls := ls) (r := (Value.ref a :: st).map (cv B S)) hst
  refine W.objInit C.1 C.2.1 C.2.2.2.2.1 (C.2.2.2.2.2.1 _ hc.1) (C.2.2.2.2.2.1 _ hc.2.1) (C.2.2.2.2.2.1 _ hc.2.2) (g := F0 m pc ls ((Value.ref a :: st).map (cv B S))) (rest := st.map (cv B S)) rfl (hL.1.trans C.2.2.2.1.symm) rfl h1 hd1 (by show _ ≤ 100 * d; omega) ?_
  exact k l p e s m args below meth c B S D cy H locs ls C hZ hW hS hL
/-- a class that may be made: its fields at birth -/
def NL (own : String) (idx ci N : Nat) (vs : List Value) : Prop := ∃ (C : String) (T : u_T) (ty : Nat → FieldType), CI ci C T N ∧ Cond.classLink own idx C ∈ TT ∧ Cond.instantiable C N ∈ TT ∧ Cond.initialized C ∈ TT ∧ (∀ k, k < N → parseFieldDescriptor (T k).2.2.1 = some (ty k)) ∧ (∀ j, j < N → defaultValue (ty j) = vp_V vs j) ∧ ∀ (B : Nat) (S : Nat → Nat), vs.map (cv B S) = vs
theorem g_new {idx ci N : Nat} {vs : List Value} (hd : Dc M.2.1 pc (.new idx) 3 pc') (hc : NL M.1.cls idx ci N vs) (hn : Nat.ble (hp.length + 1) 1000000 = true) (h1c : nc + 1 ≤ mc) (h1s : ns + N ≤ ms) (k : Gd M d mc ms pc' L (.ref hp.length :: st) (hp ++ [(ci, vs)]) (nc + 1) (ns + N) P) : Gd M d mc ms pc L st hp nc ns P := by
  obtain ⟨h1, rfl⟩ := hd
  obtain ⟨CC, TC, ty, ⟨hcl, hci, hin, -, -⟩, w1, w2, w3, hty, hdf, hcv⟩ := hc
  refine fun l p e s m args below meth c B S D cy H locs ls C hZ hW hS hL => ?_
  refine va_new (C := CC) (T := TC) (N := N) (ci := ci) (fs := vs) C.1 C.2.1 C.2.2.2.2.2.1 hin ty hty C.2.2.2.2.1 (C.2.2.2.2.2.1 _ w1) (C.2.2.2.2.2.1 _ w2) (C.2.2.2.2.2.1 _ w3) hW.2.2 hW.2.1 wO_D hS (fun q hq => Nat.le_trans C.2.2.2.2.2.2.2.2.2.2 hq) hcl hdf h1c h1s h1 (fun q H1 hP1 hD1 hS1 => ?_)
  exact grow (by rw [ce_obj hci, hcv]) hn k C hZ hW.2.2 hL hP1 hD1 hS1
theorem zI_iv (n : Nat) : (fun j => iv ((List.replicate n (Value.int 0)).getD j .null)) = fun _ => 0 := by
  funext j
  rw [List.getD_eq_getElem?_getD, List.getElem?_replicate]
  by_cases h : j < n
  · rw [if_pos h]
    rfl
  · rw [if_neg h]
    rfl
theorem ra_last {D : va_G} {tys : List (ClassId × FieldType)} {cA : ClassId} {ty : FieldType} {s : State} (h : va_K D vwCl (tys ++ [(cA, ty)]) s) : va_RA s cA ty := by
  have hx : (tys ++ [(cA, ty)])[tys.length]? = some (cA, ty) := by
    rw [List.getElem?_append_right (Nat.le_refl _), Nat.sub_self]
    rfl
  exact (h.2 _ _ hx).2
theorem g_newI {n : Int32} {N : Nat} (hd : Dc M.2.1 pc (.newarray .int) 2 pc') (h0 : ¬ n < 0) (hN : n.toNatClampNeg = N) (hN2 : Nat.ble N 100000 = true) (hn : Nat.ble (hp.length + 1) 1000000 = true) (h1c : nc + 1 ≤ mc) (h1s : ns + N ≤ ms) (k : Gd M d mc ms pc' L (.ref hp.length :: st) (hp ++ [(8, List.replicate N (.int 0))]) (nc + 1) (ns + N) P) : Gd M d mc ms pc L (.int n :: st) hp nc ns P := by
  obtain ⟨h1, rfl⟩ := hd
  have hN3 := Nat.le_of_ble_eq_true hN2
  refine fun l p e s m args below meth c B S D cy H locs ls C hZ hW hS hL => ?_
  refine va_newa (a0 := (N, .inl (fun _ => 0))) (ty := .int) C.1 C.2.1 (C.2.2.2.2.2.1 _ (tt_of 115 (by decide +kernel) rfl)) rfl hW.2.2 hW.2.1 wO_D hS (fun q hq => Nat.le_trans C.2.2.2.2.2.2.2.2.2.2 hq) (fun _ => rfl) h0 hN (by show N * 4 ≤ _; omega) h1c h1s h1 (fun q cA H1 hK1 hP1 hD1 hS1 => ?_)
  have ec : some (cy 8) = some cA := (hW.2.2.2 0 _ rfl).2.symm.trans (ra_last hK1)
  cases ec
  exact grow (by rw [ce_int (by decide) (by decide), List.length_replicate, zI_iv]) hn k C hZ hW.2.2 hL hP1 hD1 hS1
theorem g_newZ {n : Int32} {N : Nat} (hd : Dc M.2.1 pc (.newarray .boolean) 2 pc') (h0 : ¬ n < 0) (hN : n.toNatClampNeg = N) (hN2 : Nat.ble N 100000 = true) (hn : Nat.ble (hp.length + 1) 1000000 = true) (h1c : nc + 1 ≤ mc) (h1s : ns + N ≤ ms) (k : Gd M d mc ms pc' L (.ref hp.length :: st) (hp ++ [(9, List.replicate N (.int 0))]) (nc + 1) (ns + N) P) : Gd M d mc ms pc L (.int n :: st) hp nc ns P := by
  obtain ⟨h1, rfl⟩ := hd
  have hN3 := Nat.le_of_ble_eq_true hN2
  refine fun l p e s m args below meth c B S D cy H locs ls C hZ hW hS hL => ?_
  refine va_newa (a0 := (N, .inl (fun _ => 0))) (ty := .boolean) C.1 C.2.1 (C.2.2.2.2.2.1 _ (tt_of 943 (by decide +kernel) rfl)) rfl hW.2.2 hW.2.1 wO_D hS (fun q hq => Nat.le_trans C.2.2.2.2.2.2.2.2.2.2 hq) (fun _ => rfl) h0 hN (by show N * 1 ≤ _; omega) h1c h1s h1 (fun q cA H1 hK1 hP1 hD1 hS1 => ?_)
  have ec : some (cy 9) = some cA := (hW.2.2.2 1 _ rfl).2.symm.trans (ra_last hK1)
  cases ec
  exact grow (by rw [ce_int (by decide) (by decide), List.length_replicate, zI_iv]) hn k C hZ hW.2.2 hL hP1 hD1 hS1
theorem zN_rv (B : Nat) (S : Nat → Nat) (n : Nat) : (fun j => rv B S ((List.replicate n Value.null).getD j .null)) = fun _ => none := by
  funext j
  rw [List.getD_eq_getElem?_getD, List.getElem?_replicate]
  by_cases h : j < n
  · rw [if_pos h]
    rfl
  · rw [if_neg h]
    rfl
theorem g_newH {n : Int32} {N idx : Nat} (hd : Dc M.2.1 pc (.anewarray idx) 3 pc') (hc : Cond.classLink M.1.cls idx RX2 ∈ TT) (h0 : ¬ n < 0) (hN : n.toNatClampNeg = N) (hN2 : Nat.ble N 100000 = true) (hn : Nat.ble (hp.length + 1) 1000000 = true) (h1c : nc + 1 ≤ mc) (h1s : ns + N ≤ ms) (k : Gd M d mc ms pc' L (.ref hp.length :: st) (hp ++ [(10, List.replicate N .null)]) (nc + 1) (ns + N) P) : Gd M d mc ms pc L (.int n :: st) hp nc ns P := by
  obtain ⟨h1, rfl⟩ := hd
  have hN3 := Nat.le_of_ble_eq_true hN2
  refine fun l p e s m args below meth c B S D cy H locs ls C hZ hW hS hL => ?_
  refine va_newq (C := RX2) C.1 C.2.1 C.2.2.2.2.1 (C.2.2.2.2.2.1 _ hc) C.2.2.2.2.2.2.2.2.2.1.2.1 hW.2.2 hW.2.1 wO_D hS (fun q hq => Nat.le_trans C.2.2.2.2.2.2.2.2.2.2 hq) h0 hN (by omega) h1c h1s h1 (fun q cA H1 hK1 hP1 hD1 hS1 => ?_)
  obtain ⟨-, -, -, -, -, e1⟩ := (hW.2.2.2 2 _ rfl).2
  obtain ⟨-, -, -, -, -, e2⟩ := ra_last hK1
  have ec : some (cy 10) = some cA := e1.symm.trans e2
  cases ec
  exact grow (by rw [ce_ref (by decide), List.length_replicate, zN_rv]) hn k C hZ hW.2.2 hL hP1 hD1 hS1
theorem g_hst {o v ci : Nat} {i : Int32} {vs fs : List Value} (hd : Dc M.2.1 pc .aastore 1 pc') (ho : hp[o]? = some (10, vs)) (hv : hp[v]? = some (2, fs)) (h0 : vp_in i vs.length) (k : Gd M d mc ms pc' L st (hp.set o (10, vs.set i.toNatClampNeg (.ref v))) nc ns P) : Gd M d mc ms pc L (.ref v :: .int i :: .ref o :: st) hp nc ns P := by
  obtain ⟨h1, rfl⟩ := hd
  refine fun l p e s m args below meth c B S D cy H locs ls C hZ hW hS hL => ?_
  have hlt : i.toNatClampNeg < vs.length := Nat.not_le.mp fun q => h0 (Or.inr q)
  rw [List.map_cons, List.map_cons, List.map_cons, stk_ref (wd_lt hW ho), stk_ref (wd_lt hW hv)]
  refine va_astq C.1 C.2.1 hW.2.2 hW.2.1 wO_D hS o 2 v 2 (r := (RX2, TX2, 16)) ((wO_at ho).trans (by rw [ce_ref (by decide)])) rfl ((wO_at hv).trans (by rw [ce_obj (by decide)])) rfl h0 h1 (fun H1 locs1 hP1 hD1 hS1 => ?_)
  have e0 : (wO B S cy hp).set o (B + o, .inl (cy 10, vs.length, .inr (.inr (.inr (.inr (va_up (fun j => rv B S (vs.getD j .null)) i.toNatClampNeg (some (B + v)))))))) = wO B S cy (hp.set o (10, vs.set i.toNatClampNeg (.ref v))) := by
    rw [← wO_set, ce_ref (by decide), List.length_set]
    refine congrArg (fun f => (wO B S cy hp).set o (B + o, Sum.inl (cy 10, vs.length, .inr (.inr (.inr (.inr f)))))) (funext fun j => ?_)
    unfold va_up
    by_cases hj : j = i.toNatClampNeg
    · subst hj
      rw [if_pos rfl, List.getD_eq_getElem?_getD, List.getElem?_set_self hlt]
      show _ = some (ad B S v)
      rw [ad_lt (wd_lt hW hv)]
    · rw [if_neg hj]
      show rv B S (vs.getD j .null) = _
      rw [List.getD_eq_getElem?_getD, List.getD_eq_getElem?_getD, List.getElem?_set_ne (fun e => hj e.symm)]
  rw [e0] at hP1
  exact k l p e s m args below meth c B S D cy H1 locs1 ls C (by rw [List.length_set]; exact hZ) ⟨by rw [List.length_set]; exact hW.1, hP1, hW.2.2⟩ hS1 hL
theorem g_putF {idx ci kf o : Nat} {ty : FieldType} {vs : List Value} {v : Value} (hd : Dc M.2.1 pc (.putfield idx) 3 pc') (hf : FL M.1.cls idx ci kf true ty) (hcl2 : vwCl[ci]?.map (fun q => q.1) = some M.1.cls) (hnm2 : M.1.name = "<init>") (ho : hp[o]? = some (ci, vs)) (hv : kf < vs.length) (hn : ∀ (B : Nat) (S : Nat → Nat), narrow ty (cv B S v) = cv B S v ∧ fits ty (cv B S v) = true) (k : Gd M d mc ms pc' L st (hp.set o (ci, vs.set kf v)) nc ns P) : Gd M d mc ms pc L (v :: .ref o :: st) hp nc ns P := by
  obtain ⟨h1, rfl⟩ := hd
  obtain ⟨CC, TC, N, ⟨hcl, hci, hin, ⟨ty0, hty⟩, hnm⟩, hk, hdec, hlk, hfin, hdd⟩ := hf
  have hown : CC = M.1.cls := by
    rw [hcl] at hcl2
    exact Option.some.inj hcl2
  refine fun l p e s m args below meth c B S D cy H locs ls C hZ hW hS hL => ?_
  rw [List.map_cons, List.map_cons, stk_ref (wd_lt hW ho)]
  refine va_putF (C := CC) (T := TC) (N := N) C.1 C.2.1 C.2.2.2.2.2.1 hin ty0 hty hnm C.2.2.2.2.1 hW.2.2 hW.2.1 wO_D hS o ((wO_at ho).trans (by rw [ce_obj hci])) hcl kf hk (C.2.2.2.2.2.1 _ hlk) (fun x hx => by rw [← hdec]; exact hx) hfin (C.2.2.2.2.2.2.2.1.trans hnm2) (hdec.trans hown) hdd (hn B S).1 (hn B S).2 (by rw [List.length_map]; exact hv) h1 (fun H1 locs1 hP1 hD1 hS1 => ?_)
  have e0 : (wO B S cy hp).set o (B + o, .inr (ci, (vs.map (cv B S)).set kf (cv B S v))) = wO B S cy (hp.set o (ci, vs.set kf v)) := by
    rw [← wO_set, ce_obj hci, List.map_set]
  rw [e0] at hP1
  exact k l p e s m args below meth c B S D cy H1 locs1 ls C (by rw [List.length_set]; exact hZ) ⟨by rw [List.length_set]; exact hW.1, hP1, hW.2.2⟩ hS1 hL
end Rules
theorem oi_0 : OI RX0 3 := ⟨tt_of 229 (by decide +kernel) rfl, tt_of 93 (by decide +kernel) rfl, tt_of 94 (by decide +kernel) rfl⟩
theorem oi_1 : OI RX1 3 := ⟨tt_of 273 (by decide +kernel) rfl, tt_of 93 (by decide +kernel) rfl, tt_of 94 (by decide +kernel) rfl⟩
theorem oi_2 : OI RX2 3 := ⟨tt_of 152 (by decide +kernel) rfl, tt_of 93 (by decide +kernel) rfl, tt_of 94 (by decide +kernel) rfl⟩
theorem oi_3 : OI RX3 3 := ⟨tt_of 249 (by decide +kernel) rfl, tt_of 93 (by decide +kernel) rfl, tt_of 94 (by decide +kernel) rfl⟩
theorem oi_4 : OI RX4 3 := ⟨tt_of 100 (by decide +kernel) rfl, tt_of 93 (by decide +kernel) rfl, tt_of 94 (by decide +kernel) rfl⟩
theorem oi_5 : OI RX5 3 := ⟨tt_of 121 (by decide +kernel) rfl, tt_of 93 (by decide +kernel) rfl, tt_of 94 (by decide +kernel) rfl⟩
theorem oi_6 : OI RX6 1 := ⟨tt_of 92 (by decide +kernel) rfl, tt_of 93 (by decide +kernel) rfl, tt_of 94 (by decide +kernel) rfl⟩
theorem oi_7 : OI RX7 1 := ⟨tt_of 851 (by decide +kernel) rfl, tt_of 93 (by decide +kernel) rfl, tt_of 94 (by decide +kernel) rfl⟩
def bX0 : List Value := [.null, .int 0, .int 0]
def bX1 : List Value := [.null, .int 0]
def bX2 : List Value := [.int 0, .int 0, .int 0, .int 0, .int 0, .null, .null, .null, .null, .null, .null, .null, .null, .null, .null, .null]
def bX3 : List Value := [.null, .int 0, .int 0, .int 0, .null]
def bX4 : List Value := [.null, .null, .null]
def bX5 : List Value := [.null, .int 0, .int 0, .int 0, .int 0, .int 0, .int 0]
def bX6 : List Value := [.null, .null, .null, .null, .null, .null, .null, .null, .null, .int 0]
def bX7 : List Value := [.int 0, .null, .null, .null, .int 0, .null, .int 0, .int 0, .int 0, .int 0, .int 0, .int 0, .int 0, .int 0, .null, .null, .null, .null, .null, .null, .null, .int 0, .null, .int 0, .null, .null, .null, .int 0, .null, .null]
theorem nl_6_7 : NL RX6 7 4 3 bX4 := ⟨RX4, TX4, tyX4, ci4, tt_of 95 (by decide +kernel) rfl, tt_of 96 (by decide +kernel) rfl, tt_of 77 (by decide +kernel) rfl, tyX4_ok, by decide +kernel, fun _ _ => rfl⟩
theorem nl_6_16 : NL RX6 16 5 7 bX5 := ⟨RX5, TX5, tyX5, ci5, tt_of 116 (by decide +kernel) rfl, tt_of 117 (by decide +kernel) rfl, tt_of 78 (by decide +kernel) rfl, tyX5_ok, by decide +kernel, fun _ _ => rfl⟩
theorem nl_6_23 : NL RX6 23 2 16 bX2 := ⟨RX2, TX2, tyX2, ci2, tt_of 147 (by decide +kernel) rfl, tt_of 148 (by decide +kernel) rfl, tt_of 79 (by decide +kernel) rfl, tyX2_ok, by decide +kernel, fun _ _ => rfl⟩
theorem nl_0_9 : NL RX0 9 2 16 bX2 := ⟨RX2, TX2, tyX2, ci2, tt_of 230 (by decide +kernel) rfl, tt_of 148 (by decide +kernel) rfl, tt_of 79 (by decide +kernel) rfl, tyX2_ok, by decide +kernel, fun _ _ => rfl⟩
theorem nl_6_33 : NL RX6 33 0 3 bX0 := ⟨RX0, TX0, tyX0, ci0, tt_of 224 (by decide +kernel) rfl, tt_of 225 (by decide +kernel) rfl, tt_of 80 (by decide +kernel) rfl, tyX0_ok, by decide +kernel, fun _ _ => rfl⟩
theorem nl_6_44 : NL RX6 44 3 5 bX3 := ⟨RX3, TX3, tyX3, ci3, tt_of 244 (by decide +kernel) rfl, tt_of 245 (by decide +kernel) rfl, tt_of 81 (by decide +kernel) rfl, tyX3_ok, by decide +kernel, fun _ _ => rfl⟩
theorem nl_6_51 : NL RX6 51 1 2 bX1 := ⟨RX1, TX1, tyX1, ci1, tt_of 268 (by decide +kernel) rfl, tt_of 269 (by decide +kernel) rfl, tt_of 82 (by decide +kernel) rfl, tyX1_ok, by decide +kernel, fun _ _ => rfl⟩
theorem nl_L_7 : NL RL 7 6 10 bX6 := ⟨RX6, TX6, tyX6, ci6, tt_of 87 (by decide +kernel) rfl, tt_of 88 (by decide +kernel) rfl, tt_of 76 (by decide +kernel) rfl, tyX6_ok, by decide +kernel, fun _ _ => rfl⟩
theorem nl_L_10 : NL RL 10 7 30 bX7 := ⟨RX7, TX7, tyX7, ci7, tt_of 846 (by decide +kernel) rfl, tt_of 847 (by decide +kernel) rfl, tt_of 83 (by decide +kernel) rfl, tyX7_ok, by decide +kernel, fun _ _ => rfl⟩
theorem hk_0_9 : Cond.classLink RX0 9 RX2 ∈ TT := tt_of 230 (by decide +kernel) rfl
theorem hk_6_23 : Cond.classLink RX6 23 RX2 ∈ TT := tt_of 147 (by decide +kernel) rfl

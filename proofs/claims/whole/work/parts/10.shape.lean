/-! THE HEAP OF THE LAW'S LOOP: a fixed shape, its ints by number of the cell and place -/
abbrev Hv : Type := Nat → Nat → Int32
def hallC (o : Nat) : List (Nat × List (Option Nat)) := (2, [none, none, none, none, none, some (o + 1), some (o + 2), some (o + 3), some (o + 4), some (o + 5), some (o + 6), some (o + 7), some (o + 8), some (o + 9), some (o + 10), some (o + 11)]) :: (List.replicate 6 (8, List.replicate 5 none) ++ List.replicate 5 (8, List.replicate 6 none))
def actC (n : Nat) (o : Nat) : List (Nat × List (Option Nat)) := match n with
  | 0 => []
  | n + 1 => hallC o ++ actC n (o + 12)
def arI (n : Nat) : Nat × List (Option Nat) := (8, List.replicate n none)
def SP1 : List (Nat × List (Option Nat)) :=
  [(6, [some 1, some 13, some 15, some 27, some 39, some 329, some 330, some 333, some 335, none]), (4, [some 2, some 3, some 4]), arI 8, arI 8, (11, [some 5, some 6, some 7, some 8, some 9, some 10, some 11, some 12])] ++ List.replicate 8 (arI 40) ++ [(5, [some 14, none, none, none, none, none, none]), arI 110] ++ hallC 15 ++ hallC 27
  ++ [(0, [some 40, none, none]), (10, (List.range 24).map (fun i => some (41 + 12 * i)))] ++ actC 24 41 ++ [(10, [some 336, some 348]), (3, [some 331, none, none, none, some 332]), arI 6, arI 6, (1, [some 334, none]), arI 16, arI 32] ++ hallC 336 ++ hallC 348
def SP2 : List (Nat × List (Option Nat)) :=
  [(7, [none, some 361, some 362, some 363, none, some 364, none, none, none, none, none, none, none, none, some 365, some 366, some 367, some 368, some 369, some 370, some 371, none, some 372, none, some 373, some 374, some 375, none, some 376, some 377]),
   arI 320, arI 8, arI 8, arI 110, arI 17, arI 42, arI 17, arI 42, arI 17, arI 42, arI 6, arI 1008, arI 118, (9, List.replicate 2 none), arI 16, arI 1296, arI 6]
def SP : List (Nat × List (Option Nat)) := SP1 ++ SP2
theorem SP_len : SP.length = 378 := by decide +kernel
def cn (h : Hv) (o : Nat) (sl : List (Option Nat)) : List Value := sl.mapIdx (fun j r => match r with
  | none => .int (h o j)
  | some q => .ref q)
def mk (h : Hv) : Hp := SP.mapIdx (fun i e => (e.1, cn h i e.2))
def hset (h : Hv) (o j : Nat) (v : Int32) : Hv := fun a b => if a = o ∧ b = j then v else h a b
def hcpy (h : Hv) (a b sp dp n : Nat) : Hv := fun o j => if o = b ∧ dp ≤ j ∧ j < dp + n then h a (sp + (j - dp)) else h o j
theorem mk_len (h : Hv) : (mk h).length = 378 := by
  unfold mk
  rw [List.length_mapIdx, SP_len]
theorem mk_at {h : Hv} {o t : Nat} {sl : List (Option Nat)} (ho : SP[o]? = some (t, sl)) : (mk h)[o]? = some (t, cn h o sl) := by
  unfold mk
  rw [List.getElem?_mapIdx, ho]
  rfl
theorem cn_len (h : Hv) (o : Nat) (sl : List (Option Nat)) : (cn h o sl).length = sl.length := by
  unfold cn
  rw [List.length_mapIdx]
theorem cn_int {h : Hv} {o j : Nat} {sl : List (Option Nat)} (hj : sl[j]? = some none) : (cn h o sl)[j]? = some (.int (h o j)) := by
  unfold cn
  rw [List.getElem?_mapIdx, hj]
  rfl
theorem cn_ref {h : Hv} {o j q : Nat} {sl : List (Option Nat)} (hj : sl[j]? = some (some q)) : (cn h o sl)[j]? = some (.ref q) := by
  unfold cn
  rw [List.getElem?_mapIdx, hj]
  rfl
theorem mk_set {h : Hv} {o t j : Nat} {sl : List (Option Nat)} {v : Int32} (ho : SP[o]? = some (t, sl)) (hj : sl[j]? = some none) : (mk h).set o (t, (cn h o sl).set j (.int v)) = mk (hset h o j v) := by
  have hlo : o < (mk h).length := by
    rw [mk_len, ← SP_len]
    exact (List.getElem?_eq_some_iff.mp ho).1
  have hlj : j < sl.length := (List.getElem?_eq_some_iff.mp hj).1
  apply List.ext_getElem?
  intro i
  by_cases hi : o = i
  · subst hi
    rw [List.getElem?_set_self hlo, mk_at ho]
    refine congrArg some (congrArg (Prod.mk t) ?_)
    apply List.ext_getElem?
    intro q
    by_cases hq : j = q
    · subst hq
      rw [List.getElem?_set_self (by rw [cn_len]; exact hlj), cn_int hj]
      simp [hset]
    · rw [List.getElem?_set_ne hq]
      unfold cn
      rw [List.getElem?_mapIdx, List.getElem?_mapIdx]
      congr 1
      funext r
      cases r with
      | none => simp [hset, Ne.symm hq]
      | some z => rfl
  · rw [List.getElem?_set_ne hi]
    unfold mk
    rw [List.getElem?_mapIdx, List.getElem?_mapIdx]
    congr 1
    funext e
    refine congrArg (Prod.mk e.1) ?_
    unfold cn
    congr 1
    funext q r
    cases r with
    | none => simp [hset, Ne.symm hi]
    | some z => rfl
theorem mk_cpy {h : Hv} {a b na nb sp dp n : Nat} (ha : SP[a]? = some (8, List.replicate na none)) (hb : SP[b]? = some (8, List.replicate nb none)) (h4 : sp + n ≤ na) (h5 : dp + n ≤ nb) : (mk h).set b (8, cpyV (cn h a (List.replicate na none)) (cn h b (List.replicate nb none)) sp dp n) = mk (hcpy h a b sp dp n) := by
  have hlo : b < (mk h).length := by
    rw [mk_len, ← SP_len]
    exact (List.getElem?_eq_some_iff.mp hb).1
  apply List.ext_getElem?
  intro i
  by_cases hi : b = i
  · subst hi
    rw [List.getElem?_set_self hlo, mk_at hb]
    refine congrArg some (congrArg (Prod.mk 8) ?_)
    apply List.ext_getElem?
    intro q
    by_cases hq : q < nb
    · rw [cn_int (by rw [List.getElem?_replicate, if_pos hq])]
      unfold cpyV
      rw [List.getElem?_map, List.getElem?_range (by rw [cn_len, List.length_replicate]; exact hq)]
      show some _ = _
      refine congrArg some ?_
      unfold hcpy
      dsimp only
      by_cases hc : dp ≤ q ∧ q < dp + n
      · rw [if_pos hc, if_pos ⟨rfl, hc⟩, getD_of (cn_int (h := h) (o := a) (by rw [List.getElem?_replicate, if_pos (by omega)]))]
      · rw [if_neg hc, if_neg (fun e => hc e.2), getD_of (cn_int (h := h) (o := b) (by rw [List.getElem?_replicate, if_pos hq]))]
    · rw [List.getElem?_eq_none (by rw [cpyV_len, cn_len, List.length_replicate]; omega), List.getElem?_eq_none (by rw [cn_len, List.length_replicate]; omega)]
  · rw [List.getElem?_set_ne hi]
    unfold mk
    rw [List.getElem?_mapIdx, List.getElem?_mapIdx]
    congr 1
    funext e
    refine congrArg (Prod.mk e.1) ?_
    unfold cn
    congr 1
    funext q r
    cases r with
    | none => simp [hcpy, Ne.symm hi]
    | some z => rfl
def Ph (P : Option Value → Hv → Prop) : Option Value → Hp → Prop := fun v hp => ∃ h, hp = mk h ∧ P v h
abbrev GdH (M : Meth) (d pc : Nat) (L : List (Option Value)) (st : List Value) (h : Hv) (P : Option Value → Hv → Prop) : Prop := Gd M d 0 0 pc L st (mk h) 0 0 (Ph P)
def MtH (M : Meth) (d : Nat) (As : List Value) (h : Hv) (P : Option Value → Hv → Prop) : Prop := Mt M d 0 0 As (mk h) (Ph P)
/-- a method that answers just v, and leaves h1 -/
def MtF (M : Meth) (d : Nat) (As : List Value) (h : Hv) (v : Option Value) (h1 : Hv) : Prop := MtH M d As h (fun v' h' => v' = v ∧ h' = h1)
section Rules
variable {M : Meth} {d pc pc' : Nat} {L : List (Option Value)} {st : List Value} {h : Hv} {P : Option Value → Hv → Prop}
theorem MtH.of {As : List Value} (L : List (Option Value)) (hy : plainName M.1.cls = true) (hn : Nat.ble (leA As).length M.2.2.1 = true) (hL : Le M.2.2.1 As = L) (k : GdH M d 0 L [] h P) : MtH M d As h P := Mt.of L hy hn hL k
theorem MtF.of {As : List Value} {v : Option Value} {h1 : Hv} (L : List (Option Value)) (hy : plainName M.1.cls = true) (hn : Nat.ble (leA As).length M.2.2.1 = true) (hL : Le M.2.2.1 As = L) (k : GdH M d 0 L [] h (fun v' h' => v' = v ∧ h' = h1)) : MtF M d As h v h1 := Mt.of L hy hn hL k
theorem h_getI {idx ci kf o : Nat} {fin : Bool} {ty : FieldType} {sl : List (Option Nat)} (hd : Dc M.2.1 pc (.getfield idx) 3 pc') (hf : FL M.1.cls idx ci kf fin ty) (ho : SP[o]? = some (ci, sl)) (hj : sl[kf]? = some none) (k : GdH M d pc' L (.int (h o kf) :: st) h P) : GdH M d pc L (.ref o :: st) h P := g_get hd hf (mk_at ho) (cn_int hj) k
theorem h_getR {idx ci kf o q : Nat} {fin : Bool} {ty : FieldType} {sl : List (Option Nat)} (hd : Dc M.2.1 pc (.getfield idx) 3 pc') (hf : FL M.1.cls idx ci kf fin ty) (ho : SP[o]? = some (ci, sl)) (hj : sl[kf]? = some (some q)) (k : GdH M d pc' L (.ref q :: st) h P) : GdH M d pc L (.ref o :: st) h P := g_get hd hf (mk_at ho) (cn_ref hj) k
theorem h_putI {idx ci kf o : Nat} {sl : List (Option Nat)} {v : Int32} (hd : Dc M.2.1 pc (.putfield idx) 3 pc') (hf : FL M.1.cls idx ci kf false .int) (ho : SP[o]? = some (ci, sl)) (hj : sl[kf]? = some none) (k : GdH M d pc' L st (hset h o kf v) P) : GdH M d pc L (.int v :: .ref o :: st) h P := by
  refine g_put hd hf (mk_at ho) (by rw [cn_len]; exact (List.getElem?_eq_some_iff.mp hj).1) (fun _ _ => ⟨rfl, rfl⟩) ?_
  rw [mk_set ho hj]
  exact k
theorem vp_in_lt {i : Int32} {n : Nat} (h : vp_in i n) : i.toNatClampNeg < n := Nat.not_le.mp fun q => h (Or.inr q)
theorem h_iald {o n : Nat} {i : Int32} (hd : Dc M.2.1 pc .iaload 1 pc') (ho : SP[o]? = some (8, List.replicate n none)) (hi : vp_in i n) (k : GdH M d pc' L (.int (h o i.toNatClampNeg) :: st) h P) : GdH M d pc L (.int i :: .ref o :: st) h P :=
  g_iald hd (mk_at ho) (fun q => hi (Or.inl q)) (cn_int (by rw [List.getElem?_replicate, if_pos (vp_in_lt hi)])) k
theorem h_iast {o n : Nat} {i x : Int32} (hd : Dc M.2.1 pc .iastore 1 pc') (ho : SP[o]? = some (8, List.replicate n none)) (hi : vp_in i n) (k : GdH M d pc' L st (hset h o i.toNatClampNeg x) P) : GdH M d pc L (.int x :: .int i :: .ref o :: st) h P := by
  refine g_iast hd (mk_at ho) (by rw [cn_len, List.length_replicate]; exact hi) ?_
  rw [mk_set ho (by rw [List.getElem?_replicate, if_pos (vp_in_lt hi)])]
  exact k
theorem h_zald {o n : Nat} {i : Int32} (hd : Dc M.2.1 pc .baload 1 pc') (ho : SP[o]? = some (9, List.replicate n none)) (hi : vp_in i n) (k : GdH M d pc' L (.int (h o i.toNatClampNeg) :: st) h P) : GdH M d pc L (.int i :: .ref o :: st) h P :=
  g_zald hd (mk_at ho) (fun q => hi (Or.inl q)) (cn_int (by rw [List.getElem?_replicate, if_pos (vp_in_lt hi)])) k
theorem h_zast {o n : Nat} {i x : Int32} (hd : Dc M.2.1 pc .bastore 1 pc') (ho : SP[o]? = some (9, List.replicate n none)) (hi : vp_in i n) (k : GdH M d pc' L st (hset h o i.toNatClampNeg (vp_nar .boolean x)) P) : GdH M d pc L (.int x :: .int i :: .ref o :: st) h P := by
  refine g_zast hd (mk_at ho) (by rw [cn_len, List.length_replicate]; exact hi) ?_
  rw [mk_set ho (by rw [List.getElem?_replicate, if_pos (vp_in_lt hi)])]
  exact k
theorem h_aaldH {o q : Nat} {i : Int32} {sl : List (Option Nat)} (hd : Dc M.2.1 pc .aaload 1 pc') (ho : SP[o]? = some (10, sl)) (h0 : ¬ i < 0) (hj : sl[i.toNatClampNeg]? = some (some q)) (k : GdH M d pc' L (.ref q :: st) h P) : GdH M d pc L (.int i :: .ref o :: st) h P := g_aaldH hd (mk_at ho) h0 (cn_ref hj) k
theorem h_aaldI {o q : Nat} {i : Int32} {sl : List (Option Nat)} (hd : Dc M.2.1 pc .aaload 1 pc') (ho : SP[o]? = some (11, sl)) (h0 : ¬ i < 0) (hj : sl[i.toNatClampNeg]? = some (some q)) (k : GdH M d pc' L (.ref q :: st) h P) : GdH M d pc L (.int i :: .ref o :: st) h P := g_aaldI hd (mk_at ho) h0 (cn_ref hj) k
theorem h_copy {idx a b na nb : Nat} {sp dp n : Int32} (hd : Dc M.2.1 pc (.invokestatic idx) 3 pc') (hc : ACopy M.1.cls idx) (ha : SP[a]? = some (8, List.replicate na none)) (hb : SP[b]? = some (8, List.replicate nb none)) (h1 : ¬ sp < 0) (h2 : ¬ dp < 0) (h3 : ¬ n < 0) (h4 : sp.toNatClampNeg + n.toNatClampNeg ≤ na) (h5 : dp.toNatClampNeg + n.toNatClampNeg ≤ nb) (hd1 : 1 ≤ d) (hst : (st.map fun v => v.category).sum ≤ 8)
    (k : GdH M d pc' L st (hcpy h a b sp.toNatClampNeg dp.toNatClampNeg n.toNatClampNeg) P) : GdH M d pc L (.int n :: .int dp :: .ref b :: .int sp :: .ref a :: st) h P := by
  refine g_copy hd hc (mk_at ha) (mk_at hb) h1 h2 h3 (by rw [cn_len, List.length_replicate]; exact h4) (by rw [cn_len, List.length_replicate]; exact h5) hd1 hst ?_
  rw [mk_cpy ha hb h4 h5]
  exact k
theorem h_iret {x : Int32} (hd : Dc M.2.1 pc .ireturn 1 pc') (hr : M.2.2.2 = some .int) (hP : P (some (.int x)) h) : GdH M d pc L [.int x] h P := g_iret hd hr (Nat.le_refl 0) (Nat.le_refl 0) ⟨h, rfl, hP⟩
theorem h_zret {x : Int32} (hd : Dc M.2.1 pc .ireturn 1 pc') (hr : M.2.2.2 = some .boolean) (hx : narrow .boolean (.int x) = .int x) (hP : P (some (.int x)) h) : GdH M d pc L [.int x] h P := g_zret hd hr hx (Nat.le_refl 0) (Nat.le_refl 0) ⟨h, rfl, hP⟩
theorem h_lret {x : Int64} (hd : Dc M.2.1 pc .lreturn 1 pc') (hr : M.2.2.2 = some .long) (hP : P (some (.long x)) h) : GdH M d pc L [.long x] h P := g_lret hd hr (Nat.le_refl 0) (Nat.le_refl 0) ⟨h, rfl, hP⟩
theorem h_aret {x : Nat} {n : String} (hd : Dc M.2.1 pc .areturn 1 pc') (hr : M.2.2.2 = some (.object n)) (hP : P (some (.ref x)) h) : GdH M d pc L [.ref x] h P := g_aret hd hr (Or.inl ⟨n, rfl⟩) (Nat.le_refl 0) (Nat.le_refl 0) ⟨h, rfl, hP⟩
theorem h_vret (hd : Dc M.2.1 pc .return_ 1 pc') (hr : M.2.2.2 = none) (hP : P none h) : GdH M d pc L [] h P := g_vret hd hr (Nat.le_refl 0) (Nat.le_refl 0) ⟨h, rfl, hP⟩
theorem h_callV {N : Meth} {idx n d' o ci : Nat} {As : List Value} {P' : Option Value → Hv → Prop} {q : vw_C} {sl : List (Option Nat)} (hd : Dc M.2.1 pc (.invokevirtual idx) 3 pc') (hc : CLV M.1.cls idx N n) (hN : MtH N d' (.ref o :: As) h P') (ho : SP[o]? = some (ci, sl)) (hci : ci < 8) (hq : vwCl[ci]? = some q) (hq1 : q.1 = N.1.cls) (hn : As.length = n) (hst : (st.map fun v => v.category).sum ≤ 8) (hd' : d' + 1 ≤ d)
    (k : ∀ v h', P' v h' → GdH M d pc' L (v.toList ++ st) h' P) : GdH M d pc L (As.reverse ++ .ref o :: st) h P := by
  refine g_callV hd hc hN (mk_at ho) hci hq hq1 hn hst hd' (Nat.le_refl 0) (Nat.le_refl 0) (fun v hp' hp => ?_) (fun v hp' hp => ?_)
  · obtain ⟨h', e9, -⟩ := hp
    rw [e9, mk_len, mk_len]
  · obtain ⟨h', e9, hp⟩ := hp
    rw [e9]
    exact k v h' hp
theorem h_callS {N : Meth} {idx n d' : Nat} {As : List Value} {P' : Option Value → Hv → Prop} (hd : Dc M.2.1 pc (.invokestatic idx) 3 pc') (hc : CLS M.1.cls idx N n) (hN : MtH N d' As h P') (hn : As.length = n) (hst : (st.map fun v => v.category).sum ≤ 8) (hd' : d' + 1 ≤ d)
    (k : ∀ v h', P' v h' → GdH M d pc' L (v.toList ++ st) h' P) : GdH M d pc L (As.reverse ++ st) h P := by
  refine g_callS hd hc hN hn hst hd' (Nat.le_refl 0) (Nat.le_refl 0) (fun v hp' hp => ?_) (fun v hp' hp => ?_)
  · obtain ⟨h', e9, -⟩ := hp
    rw [e9, mk_len, mk_len]
  · obtain ⟨h', e9, hp⟩ := hp
    rw [e9]
    exact k v h' hp
theorem h_V0i {N : Meth} {idx d' o ci : Nat}  {r : Int32} {h1 : Hv} {sl : List (Option Nat)} (hd : Dc M.2.1 pc (.invokevirtual idx) 3 pc') (hc : CLV M.1.cls idx N 0) (hN : MtF N d' [.ref o] h (some (.int r)) h1) (ho : SP[o]? = some (ci, sl)) (hci : ci < 8) (hq : (vwCl[ci]?).map (fun q => q.1) = some N.1.cls) (hst : (st.map fun v => v.category).sum ≤ 8) (hd' : d' + 1 ≤ d) (k : GdH M d pc' L (.int r :: st) h1 P) : GdH M d pc L (.ref o :: st) h P := by
  obtain ⟨q, hq0, hq1⟩ := Option.map_eq_some_iff.mp hq
  refine h_callV (As := []) hd hc hN ho hci hq0 hq1 rfl hst hd' ?_
  rintro v' h' ⟨rfl, rfl⟩
  exact k
theorem h_S0i {N : Meth} {idx d' : Nat}  {r : Int32} {h1 : Hv} (hd : Dc M.2.1 pc (.invokestatic idx) 3 pc') (hc : CLS M.1.cls idx N 0) (hN : MtF N d' [] h (some (.int r)) h1) (hst : (st.map fun v => v.category).sum ≤ 8) (hd' : d' + 1 ≤ d) (k : GdH M d pc' L (.int r :: st) h1 P) : GdH M d pc L (st) h P := by
  refine h_callS (As := []) hd hc hN rfl hst hd' ?_
  rintro v' h' ⟨rfl, rfl⟩
  exact k
theorem h_V0v {N : Meth} {idx d' o ci : Nat}   {h1 : Hv} {sl : List (Option Nat)} (hd : Dc M.2.1 pc (.invokevirtual idx) 3 pc') (hc : CLV M.1.cls idx N 0) (hN : MtF N d' [.ref o] h (none) h1) (ho : SP[o]? = some (ci, sl)) (hci : ci < 8) (hq : (vwCl[ci]?).map (fun q => q.1) = some N.1.cls) (hst : (st.map fun v => v.category).sum ≤ 8) (hd' : d' + 1 ≤ d) (k : GdH M d pc' L st h1 P) : GdH M d pc L (.ref o :: st) h P := by
  obtain ⟨q, hq0, hq1⟩ := Option.map_eq_some_iff.mp hq
  refine h_callV (As := []) hd hc hN ho hci hq0 hq1 rfl hst hd' ?_
  rintro v' h' ⟨rfl, rfl⟩
  exact k
theorem h_S0v {N : Meth} {idx d' : Nat}   {h1 : Hv} (hd : Dc M.2.1 pc (.invokestatic idx) 3 pc') (hc : CLS M.1.cls idx N 0) (hN : MtF N d' [] h (none) h1) (hst : (st.map fun v => v.category).sum ≤ 8) (hd' : d' + 1 ≤ d) (k : GdH M d pc' L st h1 P) : GdH M d pc L (st) h P := by
  refine h_callS (As := []) hd hc hN rfl hst hd' ?_
  rintro v' h' ⟨rfl, rfl⟩
  exact k
theorem h_V0l {N : Meth} {idx d' o ci : Nat}  {r : Int64} {h1 : Hv} {sl : List (Option Nat)} (hd : Dc M.2.1 pc (.invokevirtual idx) 3 pc') (hc : CLV M.1.cls idx N 0) (hN : MtF N d' [.ref o] h (some (.long r)) h1) (ho : SP[o]? = some (ci, sl)) (hci : ci < 8) (hq : (vwCl[ci]?).map (fun q => q.1) = some N.1.cls) (hst : (st.map fun v => v.category).sum ≤ 8) (hd' : d' + 1 ≤ d) (k : GdH M d pc' L (.long r :: st) h1 P) : GdH M d pc L (.ref o :: st) h P := by
  obtain ⟨q, hq0, hq1⟩ := Option.map_eq_some_iff.mp hq
  refine h_callV (As := []) hd hc hN ho hci hq0 hq1 rfl hst hd' ?_
  rintro v' h' ⟨rfl, rfl⟩
  exact k
theorem h_S0l {N : Meth} {idx d' : Nat}  {r : Int64} {h1 : Hv} (hd : Dc M.2.1 pc (.invokestatic idx) 3 pc') (hc : CLS M.1.cls idx N 0) (hN : MtF N d' [] h (some (.long r)) h1) (hst : (st.map fun v => v.category).sum ≤ 8) (hd' : d' + 1 ≤ d) (k : GdH M d pc' L (.long r :: st) h1 P) : GdH M d pc L (st) h P := by
  refine h_callS (As := []) hd hc hN rfl hst hd' ?_
  rintro v' h' ⟨rfl, rfl⟩
  exact k
theorem h_V0a {N : Meth} {idx d' o ci : Nat}  {r : Nat} {h1 : Hv} {sl : List (Option Nat)} (hd : Dc M.2.1 pc (.invokevirtual idx) 3 pc') (hc : CLV M.1.cls idx N 0) (hN : MtF N d' [.ref o] h (some (.ref r)) h1) (ho : SP[o]? = some (ci, sl)) (hci : ci < 8) (hq : (vwCl[ci]?).map (fun q => q.1) = some N.1.cls) (hst : (st.map fun v => v.category).sum ≤ 8) (hd' : d' + 1 ≤ d) (k : GdH M d pc' L (.ref r :: st) h1 P) : GdH M d pc L (.ref o :: st) h P := by
  obtain ⟨q, hq0, hq1⟩ := Option.map_eq_some_iff.mp hq
  refine h_callV (As := []) hd hc hN ho hci hq0 hq1 rfl hst hd' ?_
  rintro v' h' ⟨rfl, rfl⟩
  exact k
theorem h_S0a {N : Meth} {idx d' : Nat}  {r : Nat} {h1 : Hv} (hd : Dc M.2.1 pc (.invokestatic idx) 3 pc') (hc : CLS M.1.cls idx N 0) (hN : MtF N d' [] h (some (.ref r)) h1) (hst : (st.map fun v => v.category).sum ≤ 8) (hd' : d' + 1 ≤ d) (k : GdH M d pc' L (.ref r :: st) h1 P) : GdH M d pc L (st) h P := by
  refine h_callS (As := []) hd hc hN rfl hst hd' ?_
  rintro v' h' ⟨rfl, rfl⟩
  exact k
theorem h_V0P {N : Meth} {idx d' o ci : Nat}  {P' : Option Value → Hv → Prop} {sl : List (Option Nat)} (hd : Dc M.2.1 pc (.invokevirtual idx) 3 pc') (hc : CLV M.1.cls idx N 0) (hN : MtH N d' [.ref o] h P') (ho : SP[o]? = some (ci, sl)) (hci : ci < 8) (hq : (vwCl[ci]?).map (fun q => q.1) = some N.1.cls) (hst : (st.map fun v => v.category).sum ≤ 8) (hd' : d' + 1 ≤ d) (k : ∀ v h', P' v h' → GdH M d pc' L (v.toList ++ st) h' P) : GdH M d pc L (.ref o :: st) h P := by
  obtain ⟨q, hq0, hq1⟩ := Option.map_eq_some_iff.mp hq
  exact h_callV (As := []) hd hc hN ho hci hq0 hq1 rfl hst hd' k
theorem h_V1i {N : Meth} {idx d' o ci : Nat} {a0 : Value} {r : Int32} {h1 : Hv} {sl : List (Option Nat)} (hd : Dc M.2.1 pc (.invokevirtual idx) 3 pc') (hc : CLV M.1.cls idx N 1) (hN : MtF N d' [.ref o, a0] h (some (.int r)) h1) (ho : SP[o]? = some (ci, sl)) (hci : ci < 8) (hq : (vwCl[ci]?).map (fun q => q.1) = some N.1.cls) (hst : (st.map fun v => v.category).sum ≤ 8) (hd' : d' + 1 ≤ d) (k : GdH M d pc' L (.int r :: st) h1 P) : GdH M d pc L (a0 :: .ref o :: st) h P := by
  obtain ⟨q, hq0, hq1⟩ := Option.map_eq_some_iff.mp hq
  refine h_callV (As := [a0]) hd hc hN ho hci hq0 hq1 rfl hst hd' ?_
  rintro v' h' ⟨rfl, rfl⟩
  exact k
theorem h_S1i {N : Meth} {idx d' : Nat} {a0 : Value} {r : Int32} {h1 : Hv} (hd : Dc M.2.1 pc (.invokestatic idx) 3 pc') (hc : CLS M.1.cls idx N 1) (hN : MtF N d' [a0] h (some (.int r)) h1) (hst : (st.map fun v => v.category).sum ≤ 8) (hd' : d' + 1 ≤ d) (k : GdH M d pc' L (.int r :: st) h1 P) : GdH M d pc L (a0 :: st) h P := by
  refine h_callS (As := [a0]) hd hc hN rfl hst hd' ?_
  rintro v' h' ⟨rfl, rfl⟩
  exact k
theorem h_V1v {N : Meth} {idx d' o ci : Nat} {a0 : Value}  {h1 : Hv} {sl : List (Option Nat)} (hd : Dc M.2.1 pc (.invokevirtual idx) 3 pc') (hc : CLV M.1.cls idx N 1) (hN : MtF N d' [.ref o, a0] h (none) h1) (ho : SP[o]? = some (ci, sl)) (hci : ci < 8) (hq : (vwCl[ci]?).map (fun q => q.1) = some N.1.cls) (hst : (st.map fun v => v.category).sum ≤ 8) (hd' : d' + 1 ≤ d) (k : GdH M d pc' L st h1 P) : GdH M d pc L (a0 :: .ref o :: st) h P := by
  obtain ⟨q, hq0, hq1⟩ := Option.map_eq_some_iff.mp hq
  refine h_callV (As := [a0]) hd hc hN ho hci hq0 hq1 rfl hst hd' ?_
  rintro v' h' ⟨rfl, rfl⟩
  exact k
theorem h_S1v {N : Meth} {idx d' : Nat} {a0 : Value}  {h1 : Hv} (hd : Dc M.2.1 pc (.invokestatic idx) 3 pc') (hc : CLS M.1.cls idx N 1) (hN : MtF N d' [a0] h (none) h1) (hst : (st.map fun v => v.category).sum ≤ 8) (hd' : d' + 1 ≤ d) (k : GdH M d pc' L st h1 P) : GdH M d pc L (a0 :: st) h P := by
  refine h_callS (As := [a0]) hd hc hN rfl hst hd' ?_
  rintro v' h' ⟨rfl, rfl⟩
  exact k
theorem h_V1l {N : Meth} {idx d' o ci : Nat} {a0 : Value} {r : Int64} {h1 : Hv} {sl : List (Option Nat)} (hd : Dc M.2.1 pc (.invokevirtual idx) 3 pc') (hc : CLV M.1.cls idx N 1) (hN : MtF N d' [.ref o, a0] h (some (.long r)) h1) (ho : SP[o]? = some (ci, sl)) (hci : ci < 8) (hq : (vwCl[ci]?).map (fun q => q.1) = some N.1.cls) (hst : (st.map fun v => v.category).sum ≤ 8) (hd' : d' + 1 ≤ d) (k : GdH M d pc' L (.long r :: st) h1 P) : GdH M d pc L (a0 :: .ref o :: st) h P := by
  obtain ⟨q, hq0, hq1⟩ := Option.map_eq_some_iff.mp hq
  refine h_callV (As := [a0]) hd hc hN ho hci hq0 hq1 rfl hst hd' ?_
  rintro v' h' ⟨rfl, rfl⟩
  exact k
theorem h_S1l {N : Meth} {idx d' : Nat} {a0 : Value} {r : Int64} {h1 : Hv} (hd : Dc M.2.1 pc (.invokestatic idx) 3 pc') (hc : CLS M.1.cls idx N 1) (hN : MtF N d' [a0] h (some (.long r)) h1) (hst : (st.map fun v => v.category).sum ≤ 8) (hd' : d' + 1 ≤ d) (k : GdH M d pc' L (.long r :: st) h1 P) : GdH M d pc L (a0 :: st) h P := by
  refine h_callS (As := [a0]) hd hc hN rfl hst hd' ?_
  rintro v' h' ⟨rfl, rfl⟩
  exact k
theorem h_V1a {N : Meth} {idx d' o ci : Nat} {a0 : Value} {r : Nat} {h1 : Hv} {sl : List (Option Nat)} (hd : Dc M.2.1 pc (.invokevirtual idx) 3 pc') (hc : CLV M.1.cls idx N 1) (hN : MtF N d' [.ref o, a0] h (some (.ref r)) h1) (ho : SP[o]? = some (ci, sl)) (hci : ci < 8) (hq : (vwCl[ci]?).map (fun q => q.1) = some N.1.cls) (hst : (st.map fun v => v.category).sum ≤ 8) (hd' : d' + 1 ≤ d) (k : GdH M d pc' L (.ref r :: st) h1 P) : GdH M d pc L (a0 :: .ref o :: st) h P := by
  obtain ⟨q, hq0, hq1⟩ := Option.map_eq_some_iff.mp hq
  refine h_callV (As := [a0]) hd hc hN ho hci hq0 hq1 rfl hst hd' ?_
  rintro v' h' ⟨rfl, rfl⟩
  exact k
theorem h_S1a {N : Meth} {idx d' : Nat} {a0 : Value} {r : Nat} {h1 : Hv} (hd : Dc M.2.1 pc (.invokestatic idx) 3 pc') (hc : CLS M.1.cls idx N 1) (hN : MtF N d' [a0] h (some (.ref r)) h1) (hst : (st.map fun v => v.category).sum ≤ 8) (hd' : d' + 1 ≤ d) (k : GdH M d pc' L (.ref r :: st) h1 P) : GdH M d pc L (a0 :: st) h P := by
  refine h_callS (As := [a0]) hd hc hN rfl hst hd' ?_
  rintro v' h' ⟨rfl, rfl⟩
  exact k
theorem h_V1P {N : Meth} {idx d' o ci : Nat} {a0 : Value} {P' : Option Value → Hv → Prop} {sl : List (Option Nat)} (hd : Dc M.2.1 pc (.invokevirtual idx) 3 pc') (hc : CLV M.1.cls idx N 1) (hN : MtH N d' [.ref o, a0] h P') (ho : SP[o]? = some (ci, sl)) (hci : ci < 8) (hq : (vwCl[ci]?).map (fun q => q.1) = some N.1.cls) (hst : (st.map fun v => v.category).sum ≤ 8) (hd' : d' + 1 ≤ d) (k : ∀ v h', P' v h' → GdH M d pc' L (v.toList ++ st) h' P) : GdH M d pc L (a0 :: .ref o :: st) h P := by
  obtain ⟨q, hq0, hq1⟩ := Option.map_eq_some_iff.mp hq
  exact h_callV (As := [a0]) hd hc hN ho hci hq0 hq1 rfl hst hd' k
theorem h_V2i {N : Meth} {idx d' o ci : Nat} {a0 a1 : Value} {r : Int32} {h1 : Hv} {sl : List (Option Nat)} (hd : Dc M.2.1 pc (.invokevirtual idx) 3 pc') (hc : CLV M.1.cls idx N 2) (hN : MtF N d' [.ref o, a0, a1] h (some (.int r)) h1) (ho : SP[o]? = some (ci, sl)) (hci : ci < 8) (hq : (vwCl[ci]?).map (fun q => q.1) = some N.1.cls) (hst : (st.map fun v => v.category).sum ≤ 8) (hd' : d' + 1 ≤ d) (k : GdH M d pc' L (.int r :: st) h1 P) : GdH M d pc L (a1 :: a0 :: .ref o :: st) h P := by
  obtain ⟨q, hq0, hq1⟩ := Option.map_eq_some_iff.mp hq
  refine h_callV (As := [a0, a1]) hd hc hN ho hci hq0 hq1 rfl hst hd' ?_
  rintro v' h' ⟨rfl, rfl⟩
  exact k
theorem h_S2i {N : Meth} {idx d' : Nat} {a0 a1 : Value} {r : Int32} {h1 : Hv} (hd : Dc M.2.1 pc (.invokestatic idx) 3 pc') (hc : CLS M.1.cls idx N 2) (hN : MtF N d' [a0, a1] h (some (.int r)) h1) (hst : (st.map fun v => v.category).sum ≤ 8) (hd' : d' + 1 ≤ d) (k : GdH M d pc' L (.int r :: st) h1 P) : GdH M d pc L (a1 :: a0 :: st) h P := by
  refine h_callS (As := [a0, a1]) hd hc hN rfl hst hd' ?_
  rintro v' h' ⟨rfl, rfl⟩
  exact k
theorem h_V2v {N : Meth} {idx d' o ci : Nat} {a0 a1 : Value}  {h1 : Hv} {sl : List (Option Nat)} (hd : Dc M.2.1 pc (.invokevirtual idx) 3 pc') (hc : CLV M.1.cls idx N 2) (hN : MtF N d' [.ref o, a0, a1] h (none) h1) (ho : SP[o]? = some (ci, sl)) (hci : ci < 8) (hq : (vwCl[ci]?).map (fun q => q.1) = some N.1.cls) (hst : (st.map fun v => v.category).sum ≤ 8) (hd' : d' + 1 ≤ d) (k : GdH M d pc' L st h1 P) : GdH M d pc L (a1 :: a0 :: .ref o :: st) h P := by
  obtain ⟨q, hq0, hq1⟩ := Option.map_eq_some_iff.mp hq
  refine h_callV (As := [a0, a1]) hd hc hN ho hci hq0 hq1 rfl hst hd' ?_
  rintro v' h' ⟨rfl, rfl⟩
  exact k
theorem h_S2v {N : Meth} {idx d' : Nat} {a0 a1 : Value}  {h1 : Hv} (hd : Dc M.2.1 pc (.invokestatic idx) 3 pc') (hc : CLS M.1.cls idx N 2) (hN : MtF N d' [a0, a1] h (none) h1) (hst : (st.map fun v => v.category).sum ≤ 8) (hd' : d' + 1 ≤ d) (k : GdH M d pc' L st h1 P) : GdH M d pc L (a1 :: a0 :: st) h P := by
  refine h_callS (As := [a0, a1]) hd hc hN rfl hst hd' ?_
  rintro v' h' ⟨rfl, rfl⟩
  exact k
theorem h_V2l {N : Meth} {idx d' o ci : Nat} {a0 a1 : Value} {r : Int64} {h1 : Hv} {sl : List (Option Nat)} (hd : Dc M.2.1 pc (.invokevirtual idx) 3 pc') (hc : CLV M.1.cls idx N 2) (hN : MtF N d' [.ref o, a0, a1] h (some (.long r)) h1) (ho : SP[o]? = some (ci, sl)) (hci : ci < 8) (hq : (vwCl[ci]?).map (fun q => q.1) = some N.1.cls) (hst : (st.map fun v => v.category).sum ≤ 8) (hd' : d' + 1 ≤ d) (k : GdH M d pc' L (.long r :: st) h1 P) : GdH M d pc L (a1 :: a0 :: .ref o :: st) h P := by
  obtain ⟨q, hq0, hq1⟩ := Option.map_eq_some_iff.mp hq
  refine h_callV (As := [a0, a1]) hd hc hN ho hci hq0 hq1 rfl hst hd' ?_
  rintro v' h' ⟨rfl, rfl⟩
  exact k
theorem h_S2l {N : Meth} {idx d' : Nat} {a0 a1 : Value} {r : Int64} {h1 : Hv} (hd : Dc M.2.1 pc (.invokestatic idx) 3 pc') (hc : CLS M.1.cls idx N 2) (hN : MtF N d' [a0, a1] h (some (.long r)) h1) (hst : (st.map fun v => v.category).sum ≤ 8) (hd' : d' + 1 ≤ d) (k : GdH M d pc' L (.long r :: st) h1 P) : GdH M d pc L (a1 :: a0 :: st) h P := by
  refine h_callS (As := [a0, a1]) hd hc hN rfl hst hd' ?_
  rintro v' h' ⟨rfl, rfl⟩
  exact k
theorem h_V2a {N : Meth} {idx d' o ci : Nat} {a0 a1 : Value} {r : Nat} {h1 : Hv} {sl : List (Option Nat)} (hd : Dc M.2.1 pc (.invokevirtual idx) 3 pc') (hc : CLV M.1.cls idx N 2) (hN : MtF N d' [.ref o, a0, a1] h (some (.ref r)) h1) (ho : SP[o]? = some (ci, sl)) (hci : ci < 8) (hq : (vwCl[ci]?).map (fun q => q.1) = some N.1.cls) (hst : (st.map fun v => v.category).sum ≤ 8) (hd' : d' + 1 ≤ d) (k : GdH M d pc' L (.ref r :: st) h1 P) : GdH M d pc L (a1 :: a0 :: .ref o :: st) h P := by
  obtain ⟨q, hq0, hq1⟩ := Option.map_eq_some_iff.mp hq
  refine h_callV (As := [a0, a1]) hd hc hN ho hci hq0 hq1 rfl hst hd' ?_
  rintro v' h' ⟨rfl, rfl⟩
  exact k
theorem h_S2a {N : Meth} {idx d' : Nat} {a0 a1 : Value} {r : Nat} {h1 : Hv} (hd : Dc M.2.1 pc (.invokestatic idx) 3 pc') (hc : CLS M.1.cls idx N 2) (hN : MtF N d' [a0, a1] h (some (.ref r)) h1) (hst : (st.map fun v => v.category).sum ≤ 8) (hd' : d' + 1 ≤ d) (k : GdH M d pc' L (.ref r :: st) h1 P) : GdH M d pc L (a1 :: a0 :: st) h P := by
  refine h_callS (As := [a0, a1]) hd hc hN rfl hst hd' ?_
  rintro v' h' ⟨rfl, rfl⟩
  exact k
theorem h_V2P {N : Meth} {idx d' o ci : Nat} {a0 a1 : Value} {P' : Option Value → Hv → Prop} {sl : List (Option Nat)} (hd : Dc M.2.1 pc (.invokevirtual idx) 3 pc') (hc : CLV M.1.cls idx N 2) (hN : MtH N d' [.ref o, a0, a1] h P') (ho : SP[o]? = some (ci, sl)) (hci : ci < 8) (hq : (vwCl[ci]?).map (fun q => q.1) = some N.1.cls) (hst : (st.map fun v => v.category).sum ≤ 8) (hd' : d' + 1 ≤ d) (k : ∀ v h', P' v h' → GdH M d pc' L (v.toList ++ st) h' P) : GdH M d pc L (a1 :: a0 :: .ref o :: st) h P := by
  obtain ⟨q, hq0, hq1⟩ := Option.map_eq_some_iff.mp hq
  exact h_callV (As := [a0, a1]) hd hc hN ho hci hq0 hq1 rfl hst hd' k
theorem h_V3i {N : Meth} {idx d' o ci : Nat} {a0 a1 a2 : Value} {r : Int32} {h1 : Hv} {sl : List (Option Nat)} (hd : Dc M.2.1 pc (.invokevirtual idx) 3 pc') (hc : CLV M.1.cls idx N 3) (hN : MtF N d' [.ref o, a0, a1, a2] h (some (.int r)) h1) (ho : SP[o]? = some (ci, sl)) (hci : ci < 8) (hq : (vwCl[ci]?).map (fun q => q.1) = some N.1.cls) (hst : (st.map fun v => v.category).sum ≤ 8) (hd' : d' + 1 ≤ d) (k : GdH M d pc' L (.int r :: st) h1 P) : GdH M d pc L (a2 :: a1 :: a0 :: .ref o :: st) h P := by
  obtain ⟨q, hq0, hq1⟩ := Option.map_eq_some_iff.mp hq
  refine h_callV (As := [a0, a1, a2]) hd hc hN ho hci hq0 hq1 rfl hst hd' ?_
  rintro v' h' ⟨rfl, rfl⟩
  exact k
theorem h_S3i {N : Meth} {idx d' : Nat} {a0 a1 a2 : Value} {r : Int32} {h1 : Hv} (hd : Dc M.2.1 pc (.invokestatic idx) 3 pc') (hc : CLS M.1.cls idx N 3) (hN : MtF N d' [a0, a1, a2] h (some (.int r)) h1) (hst : (st.map fun v => v.category).sum ≤ 8) (hd' : d' + 1 ≤ d) (k : GdH M d pc' L (.int r :: st) h1 P) : GdH M d pc L (a2 :: a1 :: a0 :: st) h P := by
  refine h_callS (As := [a0, a1, a2]) hd hc hN rfl hst hd' ?_
  rintro v' h' ⟨rfl, rfl⟩
  exact k
theorem h_V3v {N : Meth} {idx d' o ci : Nat} {a0 a1 a2 : Value}  {h1 : Hv} {sl : List (Option Nat)} (hd : Dc M.2.1 pc (.invokevirtual idx) 3 pc') (hc : CLV M.1.cls idx N 3) (hN : MtF N d' [.ref o, a0, a1, a2] h (none) h1) (ho : SP[o]? = some (ci, sl)) (hci : ci < 8) (hq : (vwCl[ci]?).map (fun q => q.1) = some N.1.cls) (hst : (st.map fun v => v.category).sum ≤ 8) (hd' : d' + 1 ≤ d) (k : GdH M d pc' L st h1 P) : GdH M d pc L (a2 :: a1 :: a0 :: .ref o :: st) h P := by
  obtain ⟨q, hq0, hq1⟩ := Option.map_eq_some_iff.mp hq
  refine h_callV (As := [a0, a1, a2]) hd hc hN ho hci hq0 hq1 rfl hst hd' ?_
  rintro v' h' ⟨rfl, rfl⟩
  exact k
theorem h_S3v {N : Meth} {idx d' : Nat} {a0 a1 a2 : Value}  {h1 : Hv} (hd : Dc M.2.1 pc (.invokestatic idx) 3 pc') (hc : CLS M.1.cls idx N 3) (hN : MtF N d' [a0, a1, a2] h (none) h1) (hst : (st.map fun v => v.category).sum ≤ 8) (hd' : d' + 1 ≤ d) (k : GdH M d pc' L st h1 P) : GdH M d pc L (a2 :: a1 :: a0 :: st) h P := by
  refine h_callS (As := [a0, a1, a2]) hd hc hN rfl hst hd' ?_
  rintro v' h' ⟨rfl, rfl⟩
  exact k
theorem h_V3l {N : Meth} {idx d' o ci : Nat} {a0 a1 a2 : Value} {r : Int64} {h1 : Hv} {sl : List (Option Nat)} (hd : Dc M.2.1 pc (.invokevirtual idx) 3 pc') (hc : CLV M.1.cls idx N 3) (hN : MtF N d' [.ref o, a0, a1, a2] h (some (.long r)) h1) (ho : SP[o]? = some (ci, sl)) (hci : ci < 8) (hq : (vwCl[ci]?).map (fun q => q.1) = some N.1.cls) (hst : (st.map fun v => v.category).sum ≤ 8) (hd' : d' + 1 ≤ d) (k : GdH M d pc' L (.long r :: st) h1 P) : GdH M d pc L (a2 :: a1 :: a0 :: .ref o :: st) h P := by
  obtain ⟨q, hq0, hq1⟩ := Option.map_eq_some_iff.mp hq
  refine h_callV (As := [a0, a1, a2]) hd hc hN ho hci hq0 hq1 rfl hst hd' ?_
  rintro v' h' ⟨rfl, rfl⟩
  exact k
theorem h_S3l {N : Meth} {idx d' : Nat} {a0 a1 a2 : Value} {r : Int64} {h1 : Hv} (hd : Dc M.2.1 pc (.invokestatic idx) 3 pc') (hc : CLS M.1.cls idx N 3) (hN : MtF N d' [a0, a1, a2] h (some (.long r)) h1) (hst : (st.map fun v => v.category).sum ≤ 8) (hd' : d' + 1 ≤ d) (k : GdH M d pc' L (.long r :: st) h1 P) : GdH M d pc L (a2 :: a1 :: a0 :: st) h P := by
  refine h_callS (As := [a0, a1, a2]) hd hc hN rfl hst hd' ?_
  rintro v' h' ⟨rfl, rfl⟩
  exact k
theorem h_V3a {N : Meth} {idx d' o ci : Nat} {a0 a1 a2 : Value} {r : Nat} {h1 : Hv} {sl : List (Option Nat)} (hd : Dc M.2.1 pc (.invokevirtual idx) 3 pc') (hc : CLV M.1.cls idx N 3) (hN : MtF N d' [.ref o, a0, a1, a2] h (some (.ref r)) h1) (ho : SP[o]? = some (ci, sl)) (hci : ci < 8) (hq : (vwCl[ci]?).map (fun q => q.1) = some N.1.cls) (hst : (st.map fun v => v.category).sum ≤ 8) (hd' : d' + 1 ≤ d) (k : GdH M d pc' L (.ref r :: st) h1 P) : GdH M d pc L (a2 :: a1 :: a0 :: .ref o :: st) h P := by
  obtain ⟨q, hq0, hq1⟩ := Option.map_eq_some_iff.mp hq
  refine h_callV (As := [a0, a1, a2]) hd hc hN ho hci hq0 hq1 rfl hst hd' ?_
  rintro v' h' ⟨rfl, rfl⟩
  exact k
theorem h_S3a {N : Meth} {idx d' : Nat} {a0 a1 a2 : Value} {r : Nat} {h1 : Hv} (hd : Dc M.2.1 pc (.invokestatic idx) 3 pc') (hc : CLS M.1.cls idx N 3) (hN : MtF N d' [a0, a1, a2] h (some (.ref r)) h1) (hst : (st.map fun v => v.category).sum ≤ 8) (hd' : d' + 1 ≤ d) (k : GdH M d pc' L (.ref r :: st) h1 P) : GdH M d pc L (a2 :: a1 :: a0 :: st) h P := by
  refine h_callS (As := [a0, a1, a2]) hd hc hN rfl hst hd' ?_
  rintro v' h' ⟨rfl, rfl⟩
  exact k
theorem h_V3P {N : Meth} {idx d' o ci : Nat} {a0 a1 a2 : Value} {P' : Option Value → Hv → Prop} {sl : List (Option Nat)} (hd : Dc M.2.1 pc (.invokevirtual idx) 3 pc') (hc : CLV M.1.cls idx N 3) (hN : MtH N d' [.ref o, a0, a1, a2] h P') (ho : SP[o]? = some (ci, sl)) (hci : ci < 8) (hq : (vwCl[ci]?).map (fun q => q.1) = some N.1.cls) (hst : (st.map fun v => v.category).sum ≤ 8) (hd' : d' + 1 ≤ d) (k : ∀ v h', P' v h' → GdH M d pc' L (v.toList ++ st) h' P) : GdH M d pc L (a2 :: a1 :: a0 :: .ref o :: st) h P := by
  obtain ⟨q, hq0, hq1⟩ := Option.map_eq_some_iff.mp hq
  exact h_callV (As := [a0, a1, a2]) hd hc hN ho hci hq0 hq1 rfl hst hd' k
theorem h_V4i {N : Meth} {idx d' o ci : Nat} {a0 a1 a2 a3 : Value} {r : Int32} {h1 : Hv} {sl : List (Option Nat)} (hd : Dc M.2.1 pc (.invokevirtual idx) 3 pc') (hc : CLV M.1.cls idx N 4) (hN : MtF N d' [.ref o, a0, a1, a2, a3] h (some (.int r)) h1) (ho : SP[o]? = some (ci, sl)) (hci : ci < 8) (hq : (vwCl[ci]?).map (fun q => q.1) = some N.1.cls) (hst : (st.map fun v => v.category).sum ≤ 8) (hd' : d' + 1 ≤ d) (k : GdH M d pc' L (.int r :: st) h1 P) : GdH M d pc L (a3 :: a2 :: a1 :: a0 :: .ref o :: st) h P := by
  obtain ⟨q, hq0, hq1⟩ := Option.map_eq_some_iff.mp hq
  refine h_callV (As := [a0, a1, a2, a3]) hd hc hN ho hci hq0 hq1 rfl hst hd' ?_
  rintro v' h' ⟨rfl, rfl⟩
  exact k
theorem h_S4i {N : Meth} {idx d' : Nat} {a0 a1 a2 a3 : Value} {r : Int32} {h1 : Hv} (hd : Dc M.2.1 pc (.invokestatic idx) 3 pc') (hc : CLS M.1.cls idx N 4) (hN : MtF N d' [a0, a1, a2, a3] h (some (.int r)) h1) (hst : (st.map fun v => v.category).sum ≤ 8) (hd' : d' + 1 ≤ d) (k : GdH M d pc' L (.int r :: st) h1 P) : GdH M d pc L (a3 :: a2 :: a1 :: a0 :: st) h P := by
  refine h_callS (As := [a0, a1, a2, a3]) hd hc hN rfl hst hd' ?_
  rintro v' h' ⟨rfl, rfl⟩
  exact k
theorem h_V4v {N : Meth} {idx d' o ci : Nat} {a0 a1 a2 a3 : Value}  {h1 : Hv} {sl : List (Option Nat)} (hd : Dc M.2.1 pc (.invokevirtual idx) 3 pc') (hc : CLV M.1.cls idx N 4) (hN : MtF N d' [.ref o, a0, a1, a2, a3] h (none) h1) (ho : SP[o]? = some (ci, sl)) (hci : ci < 8) (hq : (vwCl[ci]?).map (fun q => q.1) = some N.1.cls) (hst : (st.map fun v => v.category).sum ≤ 8) (hd' : d' + 1 ≤ d) (k : GdH M d pc' L st h1 P) : GdH M d pc L (a3 :: a2 :: a1 :: a0 :: .ref o :: st) h P := by
  obtain ⟨q, hq0, hq1⟩ := Option.map_eq_some_iff.mp hq
  refine h_callV (As := [a0, a1, a2, a3]) hd hc hN ho hci hq0 hq1 rfl hst hd' ?_
  rintro v' h' ⟨rfl, rfl⟩
  exact k
theorem h_S4v {N : Meth} {idx d' : Nat} {a0 a1 a2 a3 : Value}  {h1 : Hv} (hd : Dc M.2.1 pc (.invokestatic idx) 3 pc') (hc : CLS M.1.cls idx N 4) (hN : MtF N d' [a0, a1, a2, a3] h (none) h1) (hst : (st.map fun v => v.category).sum ≤ 8) (hd' : d' + 1 ≤ d) (k : GdH M d pc' L st h1 P) : GdH M d pc L (a3 :: a2 :: a1 :: a0 :: st) h P := by
  refine h_callS (As := [a0, a1, a2, a3]) hd hc hN rfl hst hd' ?_
  rintro v' h' ⟨rfl, rfl⟩
  exact k
theorem h_V4l {N : Meth} {idx d' o ci : Nat} {a0 a1 a2 a3 : Value} {r : Int64} {h1 : Hv} {sl : List (Option Nat)} (hd : Dc M.2.1 pc (.invokevirtual idx) 3 pc') (hc : CLV M.1.cls idx N 4) (hN : MtF N d' [.ref o, a0, a1, a2, a3] h (some (.long r)) h1) (ho : SP[o]? = some (ci, sl)) (hci : ci < 8) (hq : (vwCl[ci]?).map (fun q => q.1) = some N.1.cls) (hst : (st.map fun v => v.category).sum ≤ 8) (hd' : d' + 1 ≤ d) (k : GdH M d pc' L (.long r :: st) h1 P) : GdH M d pc L (a3 :: a2 :: a1 :: a0 :: .ref o :: st) h P := by
  obtain ⟨q, hq0, hq1⟩ := Option.map_eq_some_iff.mp hq
  refine h_callV (As := [a0, a1, a2, a3]) hd hc hN ho hci hq0 hq1 rfl hst hd' ?_
  rintro v' h' ⟨rfl, rfl⟩
  exact k
theorem h_S4l {N : Meth} {idx d' : Nat} {a0 a1 a2 a3 : Value} {r : Int64} {h1 : Hv} (hd : Dc M.2.1 pc (.invokestatic idx) 3 pc') (hc : CLS M.1.cls idx N 4) (hN : MtF N d' [a0, a1, a2, a3] h (some (.long r)) h1) (hst : (st.map fun v => v.category).sum ≤ 8) (hd' : d' + 1 ≤ d) (k : GdH M d pc' L (.long r :: st) h1 P) : GdH M d pc L (a3 :: a2 :: a1 :: a0 :: st) h P := by
  refine h_callS (As := [a0, a1, a2, a3]) hd hc hN rfl hst hd' ?_
  rintro v' h' ⟨rfl, rfl⟩
  exact k
theorem h_V4a {N : Meth} {idx d' o ci : Nat} {a0 a1 a2 a3 : Value} {r : Nat} {h1 : Hv} {sl : List (Option Nat)} (hd : Dc M.2.1 pc (.invokevirtual idx) 3 pc') (hc : CLV M.1.cls idx N 4) (hN : MtF N d' [.ref o, a0, a1, a2, a3] h (some (.ref r)) h1) (ho : SP[o]? = some (ci, sl)) (hci : ci < 8) (hq : (vwCl[ci]?).map (fun q => q.1) = some N.1.cls) (hst : (st.map fun v => v.category).sum ≤ 8) (hd' : d' + 1 ≤ d) (k : GdH M d pc' L (.ref r :: st) h1 P) : GdH M d pc L (a3 :: a2 :: a1 :: a0 :: .ref o :: st) h P := by
  obtain ⟨q, hq0, hq1⟩ := Option.map_eq_some_iff.mp hq
  refine h_callV (As := [a0, a1, a2, a3]) hd hc hN ho hci hq0 hq1 rfl hst hd' ?_
  rintro v' h' ⟨rfl, rfl⟩
  exact k
theorem h_S4a {N : Meth} {idx d' : Nat} {a0 a1 a2 a3 : Value} {r : Nat} {h1 : Hv} (hd : Dc M.2.1 pc (.invokestatic idx) 3 pc') (hc : CLS M.1.cls idx N 4) (hN : MtF N d' [a0, a1, a2, a3] h (some (.ref r)) h1) (hst : (st.map fun v => v.category).sum ≤ 8) (hd' : d' + 1 ≤ d) (k : GdH M d pc' L (.ref r :: st) h1 P) : GdH M d pc L (a3 :: a2 :: a1 :: a0 :: st) h P := by
  refine h_callS (As := [a0, a1, a2, a3]) hd hc hN rfl hst hd' ?_
  rintro v' h' ⟨rfl, rfl⟩
  exact k
theorem h_V4P {N : Meth} {idx d' o ci : Nat} {a0 a1 a2 a3 : Value} {P' : Option Value → Hv → Prop} {sl : List (Option Nat)} (hd : Dc M.2.1 pc (.invokevirtual idx) 3 pc') (hc : CLV M.1.cls idx N 4) (hN : MtH N d' [.ref o, a0, a1, a2, a3] h P') (ho : SP[o]? = some (ci, sl)) (hci : ci < 8) (hq : (vwCl[ci]?).map (fun q => q.1) = some N.1.cls) (hst : (st.map fun v => v.category).sum ≤ 8) (hd' : d' + 1 ≤ d) (k : ∀ v h', P' v h' → GdH M d pc' L (v.toList ++ st) h' P) : GdH M d pc L (a3 :: a2 :: a1 :: a0 :: .ref o :: st) h P := by
  obtain ⟨q, hq0, hq1⟩ := Option.map_eq_some_iff.mp hq
  exact h_callV (As := [a0, a1, a2, a3]) hd hc hN ho hci hq0 hq1 rfl hst hd' k
theorem h_V5i {N : Meth} {idx d' o ci : Nat} {a0 a1 a2 a3 a4 : Value} {r : Int32} {h1 : Hv} {sl : List (Option Nat)} (hd : Dc M.2.1 pc (.invokevirtual idx) 3 pc') (hc : CLV M.1.cls idx N 5) (hN : MtF N d' [.ref o, a0, a1, a2, a3, a4] h (some (.int r)) h1) (ho : SP[o]? = some (ci, sl)) (hci : ci < 8) (hq : (vwCl[ci]?).map (fun q => q.1) = some N.1.cls) (hst : (st.map fun v => v.category).sum ≤ 8) (hd' : d' + 1 ≤ d) (k : GdH M d pc' L (.int r :: st) h1 P) : GdH M d pc L (a4 :: a3 :: a2 :: a1 :: a0 :: .ref o :: st) h P := by
  obtain ⟨q, hq0, hq1⟩ := Option.map_eq_some_iff.mp hq
  refine h_callV (As := [a0, a1, a2, a3, a4]) hd hc hN ho hci hq0 hq1 rfl hst hd' ?_
  rintro v' h' ⟨rfl, rfl⟩
  exact k
theorem h_S5i {N : Meth} {idx d' : Nat} {a0 a1 a2 a3 a4 : Value} {r : Int32} {h1 : Hv} (hd : Dc M.2.1 pc (.invokestatic idx) 3 pc') (hc : CLS M.1.cls idx N 5) (hN : MtF N d' [a0, a1, a2, a3, a4] h (some (.int r)) h1) (hst : (st.map fun v => v.category).sum ≤ 8) (hd' : d' + 1 ≤ d) (k : GdH M d pc' L (.int r :: st) h1 P) : GdH M d pc L (a4 :: a3 :: a2 :: a1 :: a0 :: st) h P := by
  refine h_callS (As := [a0, a1, a2, a3, a4]) hd hc hN rfl hst hd' ?_
  rintro v' h' ⟨rfl, rfl⟩
  exact k
theorem h_V5v {N : Meth} {idx d' o ci : Nat} {a0 a1 a2 a3 a4 : Value}  {h1 : Hv} {sl : List (Option Nat)} (hd : Dc M.2.1 pc (.invokevirtual idx) 3 pc') (hc : CLV M.1.cls idx N 5) (hN : MtF N d' [.ref o, a0, a1, a2, a3, a4] h (none) h1) (ho : SP[o]? = some (ci, sl)) (hci : ci < 8) (hq : (vwCl[ci]?).map (fun q => q.1) = some N.1.cls) (hst : (st.map fun v => v.category).sum ≤ 8) (hd' : d' + 1 ≤ d) (k : GdH M d pc' L st h1 P) : GdH M d pc L (a4 :: a3 :: a2 :: a1 :: a0 :: .ref o :: st) h P := by
  obtain ⟨q, hq0, hq1⟩ := Option.map_eq_some_iff.mp hq
  refine h_callV (As := [a0, a1, a2, a3, a4]) hd hc hN ho hci hq0 hq1 rfl hst hd' ?_
  rintro v' h' ⟨rfl, rfl⟩
  exact k
theorem h_S5v {N : Meth} {idx d' : Nat} {a0 a1 a2 a3 a4 : Value}  {h1 : Hv} (hd : Dc M.2.1 pc (.invokestatic idx) 3 pc') (hc : CLS M.1.cls idx N 5) (hN : MtF N d' [a0, a1, a2, a3, a4] h (none) h1) (hst : (st.map fun v => v.category).sum ≤ 8) (hd' : d' + 1 ≤ d) (k : GdH M d pc' L st h1 P) : GdH M d pc L (a4 :: a3 :: a2 :: a1 :: a0 :: st) h P := by
  refine h_callS (As := [a0, a1, a2, a3, a4]) hd hc hN rfl hst hd' ?_
  rintro v' h' ⟨rfl, rfl⟩
  exact k
theorem h_V5l {N : Meth} {idx d' o ci : Nat} {a0 a1 a2 a3 a4 : Value} {r : Int64} {h1 : Hv} {sl : List (Option Nat)} (hd : Dc M.2.1 pc (.invokevirtual idx) 3 pc') (hc : CLV M.1.cls idx N 5) (hN : MtF N d' [.ref o, a0, a1, a2, a3, a4] h (some (.long r)) h1) (ho : SP[o]? = some (ci, sl)) (hci : ci < 8) (hq : (vwCl[ci]?).map (fun q => q.1) = some N.1.cls) (hst : (st.map fun v => v.category).sum ≤ 8) (hd' : d' + 1 ≤ d) (k : GdH M d pc' L (.long r :: st) h1 P) : GdH M d pc L (a4 :: a3 :: a2 :: a1 :: a0 :: .ref o :: st) h P := by
  obtain ⟨q, hq0, hq1⟩ := Option.map_eq_some_iff.mp hq
  refine h_callV (As := [a0, a1, a2, a3, a4]) hd hc hN ho hci hq0 hq1 rfl hst hd' ?_
  rintro v' h' ⟨rfl, rfl⟩
  exact k
theorem h_S5l {N : Meth} {idx d' : Nat} {a0 a1 a2 a3 a4 : Value} {r : Int64} {h1 : Hv} (hd : Dc M.2.1 pc (.invokestatic idx) 3 pc') (hc : CLS M.1.cls idx N 5) (hN : MtF N d' [a0, a1, a2, a3, a4] h (some (.long r)) h1) (hst : (st.map fun v => v.category).sum ≤ 8) (hd' : d' + 1 ≤ d) (k : GdH M d pc' L (.long r :: st) h1 P) : GdH M d pc L (a4 :: a3 :: a2 :: a1 :: a0 :: st) h P := by
  refine h_callS (As := [a0, a1, a2, a3, a4]) hd hc hN rfl hst hd' ?_
  rintro v' h' ⟨rfl, rfl⟩
  exact k
theorem h_V5a {N : Meth} {idx d' o ci : Nat} {a0 a1 a2 a3 a4 : Value} {r : Nat} {h1 : Hv} {sl : List (Option Nat)} (hd : Dc M.2.1 pc (.invokevirtual idx) 3 pc') (hc : CLV M.1.cls idx N 5) (hN : MtF N d' [.ref o, a0, a1, a2, a3, a4] h (some (.ref r)) h1) (ho : SP[o]? = some (ci, sl)) (hci : ci < 8) (hq : (vwCl[ci]?).map (fun q => q.1) = some N.1.cls) (hst : (st.map fun v => v.category).sum ≤ 8) (hd' : d' + 1 ≤ d) (k : GdH M d pc' L (.ref r :: st) h1 P) : GdH M d pc L (a4 :: a3 :: a2 :: a1 :: a0 :: .ref o :: st) h P := by
  obtain ⟨q, hq0, hq1⟩ := Option.map_eq_some_iff.mp hq
  refine h_callV (As := [a0, a1, a2, a3, a4]) hd hc hN ho hci hq0 hq1 rfl hst hd' ?_
  rintro v' h' ⟨rfl, rfl⟩
  exact k
theorem h_S5a {N : Meth} {idx d' : Nat} {a0 a1 a2 a3 a4 : Value} {r : Nat} {h1 : Hv} (hd : Dc M.2.1 pc (.invokestatic idx) 3 pc') (hc : CLS M.1.cls idx N 5) (hN : MtF N d' [a0, a1, a2, a3, a4] h (some (.ref r)) h1) (hst : (st.map fun v => v.category).sum ≤ 8) (hd' : d' + 1 ≤ d) (k : GdH M d pc' L (.ref r :: st) h1 P) : GdH M d pc L (a4 :: a3 :: a2 :: a1 :: a0 :: st) h P := by
  refine h_callS (As := [a0, a1, a2, a3, a4]) hd hc hN rfl hst hd' ?_
  rintro v' h' ⟨rfl, rfl⟩
  exact k
theorem h_V5P {N : Meth} {idx d' o ci : Nat} {a0 a1 a2 a3 a4 : Value} {P' : Option Value → Hv → Prop} {sl : List (Option Nat)} (hd : Dc M.2.1 pc (.invokevirtual idx) 3 pc') (hc : CLV M.1.cls idx N 5) (hN : MtH N d' [.ref o, a0, a1, a2, a3, a4] h P') (ho : SP[o]? = some (ci, sl)) (hci : ci < 8) (hq : (vwCl[ci]?).map (fun q => q.1) = some N.1.cls) (hst : (st.map fun v => v.category).sum ≤ 8) (hd' : d' + 1 ≤ d) (k : ∀ v h', P' v h' → GdH M d pc' L (v.toList ++ st) h' P) : GdH M d pc L (a4 :: a3 :: a2 :: a1 :: a0 :: .ref o :: st) h P := by
  obtain ⟨q, hq0, hq1⟩ := Option.map_eq_some_iff.mp hq
  exact h_callV (As := [a0, a1, a2, a3, a4]) hd hc hN ho hci hq0 hq1 rfl hst hd' k
end Rules
/-! the halls -/
def halls : List Nat := 15 :: 27 :: 336 :: 348 :: (List.range 24).map (fun i => 41 + 12 * i)
def isHall (o : Nat) : Prop := o ∈ halls
theorem halls_ok : ∀ o ∈ halls, (SP[o]? = some (2, [none, none, none, none, none, some (o + 1), some (o + 2), some (o + 3), some (o + 4), some (o + 5), some (o + 6), some (o + 7), some (o + 8), some (o + 9), some (o + 10), some (o + 11)])) ∧ (∀ j ∈ [1, 2, 3, 4, 5, 6], SP[o + j]? = some (8, List.replicate 5 none)) ∧ (∀ j ∈ [7, 8, 9, 10, 11], SP[o + j]? = some (8, List.replicate 6 none)) := by decide +kernel
theorem sp_hall {o : Nat} (h : isHall o) : SP[o]? = some (2, [none, none, none, none, none, some (o + 1), some (o + 2), some (o + 3), some (o + 4), some (o + 5), some (o + 6), some (o + 7), some (o + 8), some (o + 9), some (o + 10), some (o + 11)]) := (halls_ok o h).1
theorem sp_h1 {o : Nat} (h : isHall o) : SP[o + 1]? = some (8, List.replicate 5 none) := (halls_ok o h).2.1 1 (by decide)
theorem sp_h2 {o : Nat} (h : isHall o) : SP[o + 2]? = some (8, List.replicate 5 none) := (halls_ok o h).2.1 2 (by decide)
theorem sp_h3 {o : Nat} (h : isHall o) : SP[o + 3]? = some (8, List.replicate 5 none) := (halls_ok o h).2.1 3 (by decide)
theorem sp_h4 {o : Nat} (h : isHall o) : SP[o + 4]? = some (8, List.replicate 5 none) := (halls_ok o h).2.1 4 (by decide)
theorem sp_h5 {o : Nat} (h : isHall o) : SP[o + 5]? = some (8, List.replicate 5 none) := (halls_ok o h).2.1 5 (by decide)
theorem sp_h6 {o : Nat} (h : isHall o) : SP[o + 6]? = some (8, List.replicate 5 none) := (halls_ok o h).2.1 6 (by decide)
theorem sp_h7 {o : Nat} (h : isHall o) : SP[o + 7]? = some (8, List.replicate 6 none) := (halls_ok o h).2.2 7 (by decide)
theorem sp_h8 {o : Nat} (h : isHall o) : SP[o + 8]? = some (8, List.replicate 6 none) := (halls_ok o h).2.2 8 (by decide)
theorem sp_h9 {o : Nat} (h : isHall o) : SP[o + 9]? = some (8, List.replicate 6 none) := (halls_ok o h).2.2 9 (by decide)
theorem sp_h10 {o : Nat} (h : isHall o) : SP[o + 10]? = some (8, List.replicate 6 none) := (halls_ok o h).2.2 10 (by decide)
theorem sp_h11 {o : Nat} (h : isHall o) : SP[o + 11]? = some (8, List.replicate 6 none) := (halls_ok o h).2.2 11 (by decide)
theorem hall_15 : isHall 15 := by unfold isHall; decide
theorem hall_27 : isHall 27 := by unfold isHall; decide
theorem hall_act (i : Nat) (h : i < 24) : isHall (41 + 12 * i) := by
  unfold isHall halls
  simp only [List.mem_cons, List.mem_map, List.mem_range]
  exact Or.inr (Or.inr (Or.inr (Or.inr ⟨i, h, rfl⟩)))
theorem hall_img (k : Nat) (h : k < 2) : isHall (336 + 12 * k) := by
  rcases (show k = 0 ∨ k = 1 by omega) with rfl | rfl <;> (unfold isHall; decide)
theorem sp_L : SP[0]? = some (6, [some 1, some 13, some 15, some 27, some 39, some 329, some 330, some 333, some 335, none]) := by decide +kernel
theorem sp_Rows : SP[1]? = some (4, [some 2, some 3, some 4]) := by decide +kernel
theorem sp_lanes : SP[2]? = some (8, List.replicate 8 none) := by decide +kernel
theorem sp_lengths : SP[3]? = some (8, List.replicate 8 none) := by decide +kernel
theorem sp_items : SP[4]? = some (11, [some 5, some 6, some 7, some 8, some 9, some 10, some 11, some 12]) := by decide +kernel
theorem sp_Tape : SP[13]? = some (5, [some 14, none, none, none, none, none, none]) := by decide +kernel
theorem sp_bytes : SP[14]? = some (8, List.replicate 110 none) := by decide +kernel
theorem sp_Acts : SP[39]? = some (0, [some 40, none, none]) := by decide +kernel
theorem sp_before : SP[40]? = some (10, (List.range 24).map (fun i => some (41 + 12 * i))) := by decide +kernel
theorem sp_images : SP[329]? = some (10, [some 336, some 348]) := by decide +kernel
theorem sp_Orders : SP[330]? = some (3, [some 331, none, none, none, some 332]) := by decide +kernel
theorem sp_best : SP[331]? = some (8, List.replicate 6 none) := by decide +kernel
theorem sp_tried : SP[332]? = some (8, List.replicate 6 none) := by decide +kernel
theorem sp_Asks : SP[333]? = some (1, [some 334, none]) := by decide +kernel
theorem sp_numbers : SP[334]? = some (8, List.replicate 16 none) := by decide +kernel
theorem sp_dry : SP[335]? = some (8, List.replicate 32 none) := by decide +kernel
theorem sp_M : SP[360]? = some (7, [none, some 361, some 362, some 363, none, some 364, none, none, none, none, none, none, none, none, some 365, some 366, some 367, some 368, some 369, some 370, some 371, none, some 372, none, some 373, some 374, some 375, none, some 376, some 377]) := by decide +kernel
theorem sp_item0 : SP[5]? = some (8, List.replicate 40 none) := by decide +kernel
theorem sp_item1 : SP[6]? = some (8, List.replicate 40 none) := by decide +kernel
theorem sp_item2 : SP[7]? = some (8, List.replicate 40 none) := by decide +kernel
theorem sp_item3 : SP[8]? = some (8, List.replicate 40 none) := by decide +kernel
theorem sp_item4 : SP[9]? = some (8, List.replicate 40 none) := by decide +kernel
theorem sp_item5 : SP[10]? = some (8, List.replicate 40 none) := by decide +kernel
theorem sp_item6 : SP[11]? = some (8, List.replicate 40 none) := by decide +kernel
theorem sp_item7 : SP[12]? = some (8, List.replicate 40 none) := by decide +kernel
theorem sp_m_rows : SP[361]? = some (8, List.replicate 320 none) := by decide +kernel
theorem sp_m_lane : SP[362]? = some (8, List.replicate 8 none) := by decide +kernel
theorem sp_m_rowSize : SP[363]? = some (8, List.replicate 8 none) := by decide +kernel
theorem sp_m_tape : SP[364]? = some (8, List.replicate 110 none) := by decide +kernel
theorem sp_m_draft : SP[365]? = some (8, List.replicate 17 none) := by decide +kernel
theorem sp_m_draftNow : SP[366]? = some (8, List.replicate 42 none) := by decide +kernel
theorem sp_m_d : SP[367]? = some (8, List.replicate 17 none) := by decide +kernel
theorem sp_m_s : SP[368]? = some (8, List.replicate 42 none) := by decide +kernel
theorem sp_m_e : SP[369]? = some (8, List.replicate 17 none) := by decide +kernel
theorem sp_m_w : SP[370]? = some (8, List.replicate 42 none) := by decide +kernel
theorem sp_m_rank : SP[371]? = some (8, List.replicate 6 none) := by decide +kernel
theorem sp_m_undos : SP[372]? = some (8, List.replicate 1008 none) := by decide +kernel
theorem sp_m_kept : SP[373]? = some (8, List.replicate 118 none) := by decide +kernel
theorem sp_m_isKept : SP[374]? = some (9, List.replicate 2 none) := by decide +kernel
theorem sp_m_traced : SP[375]? = some (8, List.replicate 16 none) := by decide +kernel
theorem sp_m_value6 : SP[376]? = some (8, List.replicate 1296 none) := by decide +kernel
theorem sp_m_bestM : SP[377]? = some (8, List.replicate 6 none) := by decide +kernel

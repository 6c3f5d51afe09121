/-! THE ROWS' CONSTRUCTOR -/
/-- new int[N][K] behind a heap of h cells, when i of its rows are there: the outer row; all its cells; the machine that has them -/
def ydO (c : ClassId) (N h i : Nat) : Cell := arrV c N (fun j => va_rf (if j < i then some (h + 1 + j) else none))
def ydL (c c2 : ClassId) (N K h i : Nat) : List Cell := ydO c N h i :: List.replicate i (arrV c2 K (fun _ => .int 0))
def ydT (u : State) (c c2 : ClassId) (N K i : Nat) : State := { u with heap := u.heap ++ (ydL c c2 N K u.heap.size i).toArray, slotsUsed := u.slotsUsed + (N + i * K) }
theorem yd_top (u : State) (g : JFrame) (c c2 : ClassId) (N K i : Nat) : ydT (u.setTop g) c c2 N K i = (ydT u c c2 N K i).setTop g := rfl
theorem yd_lt {u : State} {c c2 : ClassId} {N K i a : Nat} (h : a < u.heap.size) : (ydT u c c2 N K i).heap[a]? = u.heap[a]? := Array.getElem?_append_left h
theorem yd_at {u : State} {c c2 : ClassId} {N K i : Nat} (k : Nat) : (ydT u c c2 N K i).heap[u.heap.size + k]? = (ydL c c2 N K u.heap.size i)[k]? := by
  show (u.heap ++ (ydL c c2 N K u.heap.size i).toArray)[u.heap.size + k]? = _
  rw [Array.getElem?_append_right (Nat.le_add_right _ _), Nat.add_sub_cancel_left, List.getElem?_toArray]
theorem yd_row {u : State} {c c2 : ClassId} {N K i j : Nat} (h : j < i) : (ydT u c c2 N K i).heap[u.heap.size + 1 + j]? = some (arrV c2 K (fun _ => .int 0)) := by
  rw [Nat.add_assoc, yd_at, ydL, Nat.add_comm 1 j, List.getElem?_cons_succ, List.getElem?_replicate, if_pos h]
theorem yd_len {u : State} {c c2 : ClassId} {N K i : Nat} : (ydT u c c2 N K i).heap.size = u.heap.size + (1 + i) := by
  show (u.heap ++ (ydL c c2 N K u.heap.size i).toArray).size = _
  rw [Array.size_append]
  show u.heap.size + (List.replicate i (arrV c2 K (fun _ => .int 0))).length.succ = _
  rw [List.length_replicate, Nat.add_comm 1 i]
theorem yd_none (u : State) (c c2 : ClassId) (N K : Nat) : u.pushCell { cls := c, slots := Array.replicate N .null } = ydT u c c2 N K 0 := by
  have e : ({ cls := c, slots := Array.replicate N .null } : Cell) = ydO c N u.heap.size 0 := (arrV_new c N .null).trans (congrArg (arrV c N) (funext fun j => by rw [if_neg (Nat.not_lt_zero j)]; rfl))
  rw [e]
  show ({ u with heap := u.heap.push _, slotsUsed := u.slotsUsed + _ } : State) = { u with heap := u.heap ++ #[_], slotsUsed := u.slotsUsed + (N + 0 * K) }
  rw [Array.push_eq_append, ydO, arrV_size, Nat.zero_mul]
  rfl
theorem yd_put (c : ClassId) (N h i : Nat) : (ydO c N h i).setSlot i (.ref (h + 1 + i)) = ydO c N h (i + 1) := by
  rw [ydO, arrV_store, ydO]
  refine congrArg (arrV c N) (funext fun j => ?_)
  show (if j = i then Value.ref (h + 1 + i) else va_rf (if j < i then some (h + 1 + j) else none)) = va_rf (if j < i + 1 then some (h + 1 + j) else none)
  rcases Nat.lt_trichotomy j i with q | q | q
  · rw [if_neg (Nat.ne_of_lt q), if_pos q, if_pos (Nat.lt_succ_of_lt q)]
  · rw [if_pos q, if_pos (q ▸ Nat.lt_succ_self j), q]
    rfl
  · rw [if_neg (Nat.ne_of_gt q), if_neg (Nat.lt_asymm q), if_neg (Nat.not_lt_of_le q)]
theorem yd_more (u : State) (c c2 : ClassId) (N K i : Nat) : ((ydT u c c2 N K i).pushCell (arrV c2 K (fun _ => .int 0))).setCell u.heap.size ((ydO c N u.heap.size i).setSlot i (.ref (ydT u c c2 N K i).heap.size)) = ydT u c c2 N K (i + 1) := by
  have e1 : ((u.heap ++ (ydL c c2 N K u.heap.size i).toArray).push (arrV c2 K (fun _ => .int 0))).setIfInBounds u.heap.size (ydO c N u.heap.size (i + 1)) = u.heap ++ (ydL c c2 N K u.heap.size (i + 1)).toArray := by
    refine Array.toList_inj.mp ?_
    rw [Array.toList_setIfInBounds, Array.toList_push, Array.toList_append, Array.toList_append, List.append_assoc, List.set_append_right _ _ (Nat.le_of_eq Array.length_toList), Array.length_toList, Nat.sub_self]
    show _ ++ (ydO c N u.heap.size i :: (_ ++ _)).set 0 _ = _ ++ (_ :: List.replicate (i + 1) _)
    rw [List.set_cons_zero, List.replicate_succ']
  have e2 : u.slotsUsed + (N + i * K) + (arrV c2 K (fun _ => .int 0)).slots.size = u.slotsUsed + (N + (i + 1) * K) := by
    rw [arrV_size, Nat.succ_mul, Nat.add_assoc, Nat.add_assoc]
  rw [yd_len, ← Nat.add_assoc, yd_put]
  show ({ u with heap := ((u.heap ++ (ydL c c2 N K u.heap.size i).toArray).push (arrV c2 K (fun _ => .int 0))).setIfInBounds u.heap.size (ydO c N u.heap.size (i + 1)), slotsUsed := u.slotsUsed + (N + i * K) + (arrV c2 K (fun _ => .int 0)).slots.size } : State) = _
  rw [e1, e2]
  rfl
section YdWp
variable {E : CtlPost} {e : Env}
/-- a loop over i, i + 1, .. that goes along a chain of machines -/
theorem yd_chain {f : Nat → PUnit → Sem (ForInStep PUnit)} (S : Nat → State) (N : Nat) (hb : ∀ i, i < N → ∀ d acts (Q : ForInStep PUnit → Pre), (∀ d' acts', Q (.yield .unit) d' acts' (S (i + 1))) → wp (f i .unit) Q E e d acts (S i)) {Q : PUnit → Pre} (hQ : ∀ d acts, Q .unit d acts (S N)) : ∀ r i, i + r = N → ∀ d acts, wp (forIn (List.range' i r) PUnit.unit f) Q E e d acts (S i)
  | 0, i, h, d, acts => by
    cases h
    rw [List.range'_zero, List.forIn_nil, wp_pure']
    exact hQ d acts
  | r + 1, i, h, d, acts => by
    rw [List.range'_succ, List.forIn_cons, wp_bind']
    exact hb i (by omega) d acts _ (fun d' acts' => yd_chain S N hb hQ r (i + 1) (by omega) d' acts')
/-- one row -/
theorem yd_inner {u : State} {cI cc : ClassId} {kI : Class} {k : Int32} {K : Nat} (hK : k.toNatClampNeg = K) (k0 : ¬ k < 0) (aI : u.vm.classes[cI]? = some kI) (bI : kI.kind = .array cc .int) (z1 : ¬ K > e.platform.arrayLengthLimit) (z2 : ¬ K * componentBytes .int > e.platform.maxHeapBytes) (z3 : u.heap.size < e.platform.maxCells) (z4 : u.slotsUsed + K ≤ e.platform.maxSlots) {d : Bool} {acts : List Action} {Q : Addr → Pre} (hQ : ∀ acts', Q u.heap.size d acts' (u.pushCell (arrV cI K (fun _ => .int 0)))) : wp (Op.multianewarray.make cI [k]) Q E e d acts u := by
  subst hK
  simp only [Op.multianewarray.make, k0, if_false, wp_bind', wp_pure', W.theClass, aI, bI, Option.some.injEq, exists_eq_left']
  refine W.newArray_of aI bI z1 z2 z3 z4 rfl (fun acts' => ?_)
  have h := hQ acts'
  rw [← arrV_new] at h
  exact h
/-- all rows -/
theorem yd_make {u : State} {cA cI cc : ClassId} {kA kI : Class} {n k : Int32} {N K : Nat} (hN : n.toNatClampNeg = N) (hK : k.toNatClampNeg = K) (n0 : ¬ n < 0) (k0 : ¬ k < 0) (aA : u.vm.classes[cA]? = some kA) (bA : kA.kind = .array cI (.array .int)) (aI : u.vm.classes[cI]? = some kI) (bI : kI.kind = .array cc .int) (hl : 1000 ≤ e.platform.arrayLengthLimit) (hh : 4000 ≤ e.platform.maxHeapBytes) (hb1 : N ≤ 1000) (hb2 : K ≤ 1000) (z3 : u.heap.size + (1 + N) ≤ e.platform.maxCells) (z4 : u.slotsUsed + (N + N * K) ≤ e.platform.maxSlots) {d : Bool} {acts : List Action} {Q : Addr → Pre} (hQ : ∀ d' acts', Q u.heap.size d' acts' (ydT u cA cI N K N)) : wp (Op.multianewarray.make cA [n, k]) Q E e d acts u := by
  have one : ∀ i, i < N → (i + 1) * K ≤ N * K := fun i h => Nat.mul_le_mul_right K h
  rw [Op.multianewarray.make]
  simp only [n0, if_false, wp_bind', wp_pure', W.theClass, aA, bA, Option.some.injEq, exists_eq_left', hN]
  refine W.newArray_of aA bA (by omega) (by show ¬ N * 4 > _; omega) (by omega) (by omega) rfl (fun acts' => ?_)
  rw [yd_none u cA cI N K]
  have nb : List.find? (fun x => decide (x < 0)) [k] = none := by rw [List.find?_cons_of_neg (by simpa using k0)]; rfl
  simp only [nb, ite_self, wp_bind', wp_pure', Std.Legacy.Range.forIn_eq_forIn_range', Std.Legacy.Range.size]
  refine yd_chain (fun i => ydT u cA cI N K i) N (fun i hi d1 a1 Q1 h1 => ?_) hQ _ 0 (by simp) d acts'
  have w := one i hi
  rw [Nat.succ_mul] at w
  rw [wp_bind']
  show wp _ _ E e d1 a1 (ydT u cA cI N K i)
  refine yd_inner (e := e) (u := ydT u cA cI N K i) hK k0 aI bI (by omega) (by show ¬ K * 4 > _; omega) (by rw [yd_len]; omega) (by show u.slotsUsed + (N + i * K) + K ≤ _; omega) (fun a2 => ?_)
  simp only [wp_bind', wp_pure', W.writeLoc]
  refine ⟨ydO cA N u.heap.size i, ?_, nofun, by rw [ydO, arrV_size]; exact hi, ?_, ?_⟩
  · have lt0 : u.heap.size < (ydT u cA cI N K i).heap.size := by
      rw [yd_len]
      omega
    exact (State.heap_pushCell_of_lt _ _ lt0).trans (yd_at 0)
  · show State.fitsSlot _ cA .none i _ = true
    have q : (ydT u cA cI N K i).vm.classes[cA]? = some kA := aA
    simp [State.fitsSlot, State.slotType?, q, bA, fits]
  · rw [yd_more]
    exact h1 _ _
end YdWp
section YdStand
variable {p : Program} {l : Launch} {e : Env} {R : Room} {s T : State} {m : MethodId} {args : Array Value} {below : List Frame} {meth : Method} {c : Code} {locs : List Loc} {cells slots : Nat}
/-- all the cells at once -/
theorem yd_stand (X : Stand p l e R s m args below meth c T locs cells slots) (cA cI : ClassId) (N K : Nat) : Stand p l e R s m args below meth c (ydT T cA cI N K N) locs (cells + (1 + N)) (slots + (N + N * K)) := by
  obtain ⟨f0, q0⟩ := Option.isSome_iff_exists.mp X.here.top
  obtain ⟨fs, q1⟩ := State.topJava?_eq_some.mp q0
  obtain ⟨th, q2, -⟩ := State.frames_cons q1
  have hd : (T.heap ++ (ydL cA cI N K T.heap.size N).toArray).toList.drop T.heap.size = ydL cA cI N K T.heap.size N := by
    rw [Array.toList_append, ← Array.length_toList, List.drop_left]
  have hs : ((ydL cA cI N K T.heap.size N).map (fun x => x.slots.size)).sum = N + N * K := by
    rw [ydL, List.map_cons, List.map_replicate, List.sum_cons, List.sum_replicate_nat, ydO, arrV_size, arrV_size]
  have hv : T.sameButNew ((ydT T cA cI N K N).setVm T.vm) [] (1 + N) (N + N * K) := by
    refine ⟨?_, ?_, ?_, ?_, ?_, fun a x hx => ⟨x, ?_, rfl, rfl, fun _ _ => rfl⟩⟩
    · show ydT T cA cI N K N = { T.setFrames T.frames with heap := (ydT T cA cI N K N).heap, slotsUsed := (ydT T cA cI N K N).slotsUsed }
      rw [State.setFrames_self q2]
      rfl
    · show _ ≤ (ydT T cA cI N K N).heap.size
      rw [yd_len]
      exact Nat.le_add_right _ _
    · exact Nat.le_of_eq yd_len
    · show _ = _ + (((T.heap ++ (ydL cA cI N K T.heap.size N).toArray).toList.drop T.heap.size).map _).sum
      rw [hd, hs]
      rfl
    · show (((T.heap ++ (ydL cA cI N K T.heap.size N).toArray).toList.drop T.heap.size).map _).sum ≤ _
      rw [hd, hs]
      exact Nat.le_refl _
    · exact (yd_lt (Array.getElem?_eq_some_iff.mp hx).1).trans hx
  have h := X.moved (T₂ := ydT T cA cI N K N) (X.here.setHeapUsed _ _) X.tail rfl rfl (State.WarmedH.refl T) hv
  rw [List.append_nil] at h
  exact h
/-- of what kind the outer row's type is -/
theorem yd_kind {cA cI : ClassId} (h : va_Nw (.arrayOver (.array .int)) s) (fA : s.vm.findClass "[[I" = some cA) (fI : s.vm.findClass "[I" = some cI) : ∃ kA, s.vm.classes[cA]? = some kA ∧ kA.kind = .array cI (.array .int) := by
  have h1 : (Cond.arrayOver (.array .int)).value #[] s none s [] = some true := eq_of_beq h
  change (s.vm.findClass "[I").bind _ = _ at h1
  rw [fI, Option.bind_some] at h1
  obtain ⟨c1, g1, g2⟩ := Option.bind_eq_some_iff.mp h1
  obtain ⟨k1, g3, g4⟩ := Option.map_eq_some_iff.mp g2
  have g5 := (Array.findIdx?_eq_some_iff_getElem.mp g1).2.1
  rw [(Array.getElem?_eq_some_iff.mp g3).2] at g5
  revert g4 g5
  cases ek : k1.kind <;> intro g4 g5 <;> simp only [Bool.and_eq_true, decide_eq_true_eq, beq_iff_eq, Bool.false_eq_true] at g4 g5
  have g6 : s.vm.findClass "[[I" = some c1 := g4.2
  cases fA.symm.trans g6
  exact ⟨k1, g3, by rw [ek, g4.1, g5]⟩
theorem yd_step (X : Stand p l e R s m args below meth c T locs cells slots) (hexec : p.tables.exec = Jvm.exec) {own : String} {idx : Nat} (ho : s.vm.findClass own = some m.cls) (hc : (Cond.classLink own idx "[[I").before args s = true) (hO : va_Nw (.arrayOver (.array .int)) s) (hI : (Cond.arrayClass .int).before args s = true) {cA cI : ClassId} (fA : s.vm.findClass "[[I" = some cA) (fI : s.vm.findClass "[I" = some cI) {f : JFrame} {n k : Int32} {N K : Nat} {st : List Value} (hm : f.method = m) (hd : decode c.code f.pc = .ok (.multianewarray idx 2, 4)) (hs : f.stack = .int k :: .int n :: st) (hN : n.toNatClampNeg = N) (hK : k.toNatClampNeg = K) (n0 : ¬ n < 0) (k0 : ¬ k < 0) (hb1 : N ≤ 1000) (hb2 : K ≤ 1000) (r1 : cells + (1 + N) ≤ R.cells) (r2 : slots + (N + N * K) ≤ R.slots) : ∃ vm, Stand p l e R s m args below meth c (ydT (T.setVm vm) cA cI N K N) locs (cells + (1 + N)) (slots + (N + N * K)) ∧ ∀ t, Steps p.tables e below ((ydT (T.setVm vm) cA cI N K N).setTop { f with pc := f.pc + 4, stack := .ref T.heap.size :: st }) t → Steps p.tables e below (T.setTop f) t := by
  cases hm
  obtain ⟨kA, aA, bA⟩ := yd_kind hO fA fI
  obtain ⟨c3, kI, cc, f3, aI, bI⟩ := Cond.arrayClass_spec hI
  cases (f3.symm.trans fI : some c3 = some cI)
  obtain ⟨c4, f4, lk⟩ := Cond.classLink_spec ho hc e.platform (by rw [X.admits.platform])
  cases (f4.symm.trans fA : some c4 = some cA)
  obtain ⟨gives, warm, -⟩ := State.classEntry (e := e) X.warmed lk
  generalize T.vm.noted f.method.cls idx (.cls cA) = vm at gives warm
  obtain ⟨kA', aA', bA'⟩ := warm.alike.2.2 _ _ aA
  obtain ⟨kI', aI', bI'⟩ := warm.alike.2.2 _ _ aI
  have Y := yd_stand (X.noted warm) cA cI N K
  obtain ⟨v1, v2⟩ := X.roomAbove r1 r2
  have l1 := Launch.admits_arrayLengthLimit X.admits
  have l2 := Launch.admits_maxHeapBytes X.admits
  refine ⟨vm, Y, fun t ht => ?_⟩
  jvm_step X.here [hexec, hd]
  rw [Op.multianewarray.sem, wp_bind', W.resolveClassAt_links (State.method?_setTop f X.here.top) gives, wp_bind']
  refine (Op.popN_top (s := T.setVm vm) (args := [.int n, .int k]) (rest := st) X.here.top hs).mpr ?_
  simp only [List.mapM_cons, List.mapM_nil, wp_bind', wp_pure']
  refine yd_make (u := (T.setVm vm).setTop { f with stack := st }) hN hK n0 k0 aA' (by rw [bA', bA]) aI' (by rw [bI', bI]) (by omega) (by omega) hb1 hb2 v1 v2 (fun d1 a1 => ?_)
  refine ⟨{ f with stack := st }, State.topJava?_setTop' (s := ydT (T.setVm vm) cA cI N K N) _ Y.here.top, ?_⟩
  intro acts
  simp [jvm, Y.here.top, yd_top]
  exact ht
end YdStand
section Rules
variable {M : Meth} {d mc ms pc pc' : Nat} {L : List (Option Value)} {st : List Value} {hp : Hp} {nc ns : Nat} {P : Option Value → Hp → Prop}
/-- the rows that one instruction makes: the outer one, and behind it the inner ones -/
def mnaB (o N K : Nat) : Hp := (11, (List.range N).map (fun j => .ref (o + 1 + j))) :: List.replicate N (8, List.replicate K (.int 0))
theorem mnaB_len (o N K : Nat) : (mnaB o N K).length = N + 1 := by
  unfold mnaB
  rw [List.length_cons, List.length_replicate]
theorem mna_rv {B : Nat} {S : Nat → Nat} {o N : Nat} (h : o + 1 + N ≤ 1000000) : (fun j => rv B S (((List.range N).map (fun j => Value.ref (o + 1 + j))).getD j .null)) = fun j => if j < N then some (B + o + 1 + j) else none := by
  funext j
  rw [List.getD_eq_getElem?_getD, List.getElem?_map]
  by_cases hj : j < N
  · rw [List.getElem?_range hj, if_pos hj]
    show some (ad B S (o + 1 + j)) = _
    rw [ad_lt (by omega)]
    congr 1
    omega
  · rw [List.getElem?_eq_none (by rw [List.length_range]; omega), if_neg hj]
    rfl
theorem g_mna {idx : Nat} {n k : Int32} {N K : Nat} (hd : Dc M.2.1 pc (.multianewarray idx 2) 4 pc') (hc : Cond.classLink M.1.cls idx "[[I" ∈ TT) (hn : ¬ n < 0) (hk : ¬ k < 0) (hN : n.toNatClampNeg = N) (hKK : k.toNatClampNeg = K) (hb1 : N ≤ 1000) (hb2 : K ≤ 1000) (hln : hp.length + 1 + N ≤ 1000000) (h1c : nc + (1 + N) ≤ mc) (h1s : ns + (N + N * K) ≤ ms) (kk : Gd M d mc ms pc' L (.ref hp.length :: st) (hp ++ mnaB hp.length N K) (nc + 1 + N) (ns + N + N * K) P) : Gd M d mc ms pc L (.int k :: .int n :: st) hp nc ns P := by
  obtain ⟨h1, rfl⟩ := hd
  subst hN
  subst hKK
  refine fun l p e s m args below meth c B S D cy H locs ls C hZ hW hS hL => ?_
  intro T hT Xs
  have hsz : H.size = B + hp.length := by
    have g1 := Xs.heapSize
    rw [hT] at g1
    have g2 := wd_le hW (Nat.le_trans C.2.2.2.2.2.2.2.2.2.2 hS.1)
    omega
  obtain ⟨vm₁, X', step⟩ := yd_step Xs C.1 C.2.2.2.2.1 (C.2.2.2.2.2.1 _ hc) C.2.2.2.2.2.2.2.2.2.1.2.2 (C.2.2.2.2.2.1 _ (tt_of 115 (by decide +kernel) rfl)) (hW.2.2.2 3 _ rfl).2 (hW.2.2.2 0 _ rfl).2 (f := F0 m pc ls (.int k :: .int n :: st.map (cv B S))) rfl (by rw [C.2.1]; exact h1) rfl rfl rfl hn hk hb1 hb2 h1c h1s
  rw [← Nat.add_assoc, ← Nat.add_assoc] at X'
  have f1 : (ydT (T.setVm vm₁) (cy 11) (cy 8) n.toNatClampNeg k.toNatClampNeg n.toNatClampNeg).heap.size = T.heap.size + (1 + n.toNatClampNeg) := yd_len
  have f2 : (ydT (T.setVm vm₁) (cy 11) (cy 8) n.toNatClampNeg k.toNatClampNeg n.toNatClampNeg).heap[T.heap.size]? = some (ydO (cy 11) n.toNatClampNeg T.heap.size n.toNatClampNeg) := yd_at 0
  have hold : ∀ a, a < T.heap.size → (ydT (T.setVm vm₁) (cy 11) (cy 8) n.toNatClampNeg k.toNatClampNeg n.toNatClampNeg).heap[a]? = T.heap[a]? := fun a ha => yd_lt ha
  have hrow : ∀ j, j < n.toNatClampNeg → (ydT (T.setVm vm₁) (cy 11) (cy 8) n.toNatClampNeg k.toNatClampNeg n.toNatClampNeg).heap[T.heap.size + 1 + j]? = some (arrV (cy 8) k.toNatClampNeg (fun _ => .int 0)) := fun j hj => yd_row hj
  generalize ydT (T.setVm vm₁) (cy 11) (cy 8) n.toNatClampNeg k.toNatClampNeg n.toNatClampNeg = F at X' step f1 f2 hold hrow
  rw [hT] at f1 f2 hold hrow
  have hP0 : va_P D vwCl (wO B S cy hp) F.heap := hW.2.1.kept (fun k9 x hx => hold x.1 ((hW.2.1 k9 x hx).lt))
  have hP : va_P D vwCl (wO B S cy (hp ++ mnaB hp.length n.toNatClampNeg k.toNatClampNeg)) F.heap := by
    intro i x hx
    obtain ⟨q, hq, rfl⟩ := wO_back hx
    by_cases h2 : i < hp.length
    · rw [List.getElem?_append_left h2] at hq
      exact hP0 i _ (wO_at hq)
    · rw [List.getElem?_append_right (by omega)] at hq
      cases hi : i - hp.length with
      | zero =>
        rw [hi] at hq
        cases hq
        rw [ce_ref (by decide), List.length_map, List.length_range, mna_rv hln, show B + i = H.size by omega, show B + hp.length = H.size by omega]
        exact f2
      | succ j =>
        rw [hi] at hq
        have hq2 : (List.replicate n.toNatClampNeg ((8, List.replicate k.toNatClampNeg (.int 0)) : Nat × List Value))[j]? = some q := hq
        rw [List.getElem?_replicate] at hq2
        by_cases hj : j < n.toNatClampNeg
        · rw [if_pos hj] at hq2
          cases hq2
          rw [ce_int (by decide) (by decide), List.length_replicate, zI_iv, show B + i = H.size + 1 + j by omega]
          exact hrow j hj
        · rw [if_neg hj] at hq2
          cases hq2
  have kk2 := kk l p e s m args below meth c B S D cy F.heap locs ls C (by rw [List.length_append, mnaB_len]; omega) ⟨by rw [List.length_append, mnaB_len]; omega, hP, hW.2.2⟩ ⟨by rw [f1]; have := hS.1; omega, fun x h1 h2 => (hold x (Nat.lt_of_lt_of_le h1 hS.1)).trans (hS.2.1 x h1 h2), hS.2.2⟩ hL
  obtain ⟨t, a1, b1⟩ := kk2 F rfl X'
  refine ⟨t, step t ?_, b1⟩
  have e : T.heap.size = H.size := by rw [hT]
  rw [e, hsz]
  rw [List.map_cons, stk_ref (by omega)] at a1
  exact a1
end Rules
section Rules
variable {M : Meth} {d mc ms pc pc' : Nat} {L : List (Option Value)} {st : List Value} {pre blk blk' : Hp} {nc ns nc' ns' o q a i : Nat} {P : Option Value → Hp → Prop}
theorem b_mna {idx : Nat} {n k : Int32} {N K : Nat} (ho : pre.length = o) (hd : Dc M.2.1 pc (.multianewarray idx 2) 4 pc') (hc : Cond.classLink M.1.cls idx "[[I" ∈ TT) (hn : ¬ n < 0) (hk : ¬ k < 0) (hN : n.toNatClampNeg = N) (hKK : k.toNatClampNeg = K) (hb1 : N ≤ 1000) (hb2 : K ≤ 1000) (hq : o + blk.length = q) (hln : q + 1 + N ≤ 1000000) (hb : blk ++ mnaB q N K = blk') (h1c : nc + (1 + N) ≤ mc) (h1s : ns + (N + N * K) ≤ ms) (hnc : nc + 1 + N = nc') (hns : ns + N + N * K = ns') (kk : Gd M d mc ms pc' L (.ref q :: st) (pre ++ blk') nc' ns' P) : Gd M d mc ms pc L (.int k :: .int n :: st) (pre ++ blk) nc ns P := by
  subst hb hnc hns
  have e : (pre ++ blk).length = q := by rw [List.length_append]; omega
  refine g_mna hd hc hn hk hN hKK hb1 hb2 (by rw [e]; exact hln) h1c h1s ?_
  rw [e, List.append_assoc]
  exact kk
end Rules
theorem hk_4_18 : Cond.classLink RX4 18 "[[I" ∈ TT := tt_of 101 (by decide +kernel) rfl
theorem i_rows : RowsI := fun o pre ho h9 => by
  refine Mt.of [some (.ref o)] (by decide +kernel) rfl rfl ?_
  show Gd _ _ _ _ _ _ _ (pre ++ [(4, [.null, .null, .null])]) _ _ _
  refine g_aload_n d_X4_init_0 rfl ?_
  refine g_obj d_X4_init_1 oi_4 (by decide) (by decide) ?_
  refine g_aload_n d_X4_init_4 rfl ?_
  refine g_bipush (v := 8) d_X4_init_5 (by decide +kernel) ?_
  refine b_newI (N := 8) (q := (o + 1)) (blk' := [(4, [.null, .null, .null]), (8, List.replicate 8 (.int 0))]) (nc' := 1) (ns' := 8) ho d_X4_init_7 (by decide) (by decide +kernel) rfl rfl rfl (by omega) rfl rfl (by decide) (by decide) ?_
  refine g_dup d_X4_init_9 rfl ?_
  refine g_iconst (v := 0) d_X4_init_10 (by decide +kernel) ?_
  refine g_iconst (v := (-1)) d_X4_init_11 (by decide +kernel) ?_
  refine b_iast (i := 1) (blk' := [(4, [.null, .null, .null]), (8, [(.int (-1)), (.int 0), (.int 0), (.int 0), (.int 0), (.int 0), (.int 0), (.int 0)])]) ho d_X4_init_12 rfl rfl (by unfold vp_in; decide) rfl ?_
  refine g_dup d_X4_init_13 rfl ?_
  refine g_iconst (v := 1) d_X4_init_14 (by decide +kernel) ?_
  refine g_iconst (v := (-1)) d_X4_init_15 (by decide +kernel) ?_
  refine b_iast (i := 1) (blk' := [(4, [.null, .null, .null]), (8, [(.int (-1)), (.int (-1)), (.int 0), (.int 0), (.int 0), (.int 0), (.int 0), (.int 0)])]) ho d_X4_init_16 rfl rfl (by unfold vp_in; decide) rfl ?_
  refine g_dup d_X4_init_17 rfl ?_
  refine g_iconst (v := 2) d_X4_init_18 (by decide +kernel) ?_
  refine g_iconst (v := (-1)) d_X4_init_19 (by decide +kernel) ?_
  refine b_iast (i := 1) (blk' := [(4, [.null, .null, .null]), (8, [(.int (-1)), (.int (-1)), (.int (-1)), (.int 0), (.int 0), (.int 0), (.int 0), (.int 0)])]) ho d_X4_init_20 rfl rfl (by unfold vp_in; decide) rfl ?_
  refine g_dup d_X4_init_21 rfl ?_
  refine g_iconst (v := 3) d_X4_init_22 (by decide +kernel) ?_
  refine g_iconst (v := (-1)) d_X4_init_23 (by decide +kernel) ?_
  refine b_iast (i := 1) (blk' := [(4, [.null, .null, .null]), (8, [(.int (-1)), (.int (-1)), (.int (-1)), (.int (-1)), (.int 0), (.int 0), (.int 0), (.int 0)])]) ho d_X4_init_24 rfl rfl (by unfold vp_in; decide) rfl ?_
  refine g_dup d_X4_init_25 rfl ?_
  refine g_iconst (v := 4) d_X4_init_26 (by decide +kernel) ?_
  refine g_iconst (v := (-1)) d_X4_init_27 (by decide +kernel) ?_
  refine b_iast (i := 1) (blk' := [(4, [.null, .null, .null]), (8, [(.int (-1)), (.int (-1)), (.int (-1)), (.int (-1)), (.int (-1)), (.int 0), (.int 0), (.int 0)])]) ho d_X4_init_28 rfl rfl (by unfold vp_in; decide) rfl ?_
  refine g_dup d_X4_init_29 rfl ?_
  refine g_iconst (v := 5) d_X4_init_30 (by decide +kernel) ?_
  refine g_iconst (v := (-1)) d_X4_init_31 (by decide +kernel) ?_
  refine b_iast (i := 1) (blk' := [(4, [.null, .null, .null]), (8, [(.int (-1)), (.int (-1)), (.int (-1)), (.int (-1)), (.int (-1)), (.int (-1)), (.int 0), (.int 0)])]) ho d_X4_init_32 rfl rfl (by unfold vp_in; decide) rfl ?_
  refine g_dup d_X4_init_33 rfl ?_
  refine g_bipush (v := 6) d_X4_init_34 (by decide +kernel) ?_
  refine g_iconst (v := (-1)) d_X4_init_36 (by decide +kernel) ?_
  refine b_iast (i := 1) (blk' := [(4, [.null, .null, .null]), (8, [(.int (-1)), (.int (-1)), (.int (-1)), (.int (-1)), (.int (-1)), (.int (-1)), (.int (-1)), (.int 0)])]) ho d_X4_init_37 rfl rfl (by unfold vp_in; decide) rfl ?_
  refine g_dup d_X4_init_38 rfl ?_
  refine g_bipush (v := 7) d_X4_init_39 (by decide +kernel) ?_
  refine g_iconst (v := (-1)) d_X4_init_41 (by decide +kernel) ?_
  refine b_iast (i := 1) (blk' := [(4, [.null, .null, .null]), (8, List.replicate 8 (.int (-1)))]) ho d_X4_init_42 rfl rfl (by unfold vp_in; decide) rfl ?_
  refine b_putF (i := 0) (blk' := [(4, [(.ref (o + 1)), .null, .null]), (8, List.replicate 8 (.int (-1)))]) ho d_X4_init_43 fl_4_11 rfl rfl rfl rfl (Nat.le_of_ble_eq_true rfl) rfl (fun _ _ => ⟨rfl, rfl⟩) ?_
  refine g_aload_n d_X4_init_46 rfl ?_
  refine g_bipush (v := 8) d_X4_init_47 (by decide +kernel) ?_
  refine b_newI (N := 8) (q := (o + 2)) (blk' := [(4, [(.ref (o + 1)), .null, .null]), (8, List.replicate 8 (.int (-1))), (8, List.replicate 8 (.int 0))]) (nc' := 2) (ns' := 16) ho d_X4_init_49 (by decide) (by decide +kernel) rfl rfl rfl (by omega) rfl rfl (by decide) (by decide) ?_
  refine b_putF (i := 0) (blk' := [(4, [(.ref (o + 1)), (.ref (o + 2)), .null]), (8, List.replicate 8 (.int (-1))), (8, List.replicate 8 (.int 0))]) ho d_X4_init_51 fl_4_15 rfl rfl rfl rfl (Nat.le_of_ble_eq_true rfl) rfl (fun _ _ => ⟨rfl, rfl⟩) ?_
  refine g_aload_n d_X4_init_54 rfl ?_
  refine g_bipush (v := 8) d_X4_init_55 (by decide +kernel) ?_
  refine g_bipush (v := 40) d_X4_init_57 (by decide +kernel) ?_
  refine b_mna (N := 8) (K := 40) (q := (o + 3)) (blk' := [(4, [(.ref (o + 1)), (.ref (o + 2)), .null]), (8, List.replicate 8 (.int (-1))), (8, List.replicate 8 (.int 0)), (11, [(.ref (o + 4)), (.ref (o + 5)), (.ref (o + 6)), (.ref (o + 7)), (.ref (o + 8)), (.ref (o + 9)), (.ref (o + 10)), (.ref (o + 11))]), (8, List.replicate 40 (.int 0)), (8, List.replicate 40 (.int 0)), (8, List.replicate 40 (.int 0)), (8, List.replicate 40 (.int 0)), (8, List.replicate 40 (.int 0)), (8, List.replicate 40 (.int 0)), (8, List.replicate 40 (.int 0)), (8, List.replicate 40 (.int 0))]) (nc' := 11) (ns' := 344) ho d_X4_init_59 hk_4_18 (by decide) (by decide) (by decide +kernel) (by decide +kernel) (by decide) (by decide) rfl (by omega) rfl (by decide) (by decide) rfl rfl ?_
  refine b_putF (i := 0) (blk' := [(4, [(.ref (o + 1)), (.ref (o + 2)), (.ref (o + 3))]), (8, List.replicate 8 (.int (-1))), (8, List.replicate 8 (.int 0)), (11, [(.ref (o + 4)), (.ref (o + 5)), (.ref (o + 6)), (.ref (o + 7)), (.ref (o + 8)), (.ref (o + 9)), (.ref (o + 10)), (.ref (o + 11))]), (8, List.replicate 40 (.int 0)), (8, List.replicate 40 (.int 0)), (8, List.replicate 40 (.int 0)), (8, List.replicate 40 (.int 0)), (8, List.replicate 40 (.int 0)), (8, List.replicate 40 (.int 0)), (8, List.replicate 40 (.int 0)), (8, List.replicate 40 (.int 0))]) ho d_X4_init_63 fl_4_20 rfl rfl rfl rfl (Nat.le_of_ble_eq_true rfl) rfl (fun _ _ => ⟨rfl, rfl⟩) ?_
  exact g_vret d_X4_init_66 rfl (by decide) (by decide) ⟨rfl, rfl⟩

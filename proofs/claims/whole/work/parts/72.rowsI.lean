/-! THE ROWS' CONSTRUCTOR -/
/-- the outer row when i of its places are filled; an inner row; the machine then -/
def mrO (c : ClassId) (N h i : Nat) : Cell := arrV c N (fun j => va_rf (if j < i then some (h + 1 + j) else none))
def mrI (c : ClassId) (K : Nat) : Cell := arrV c K (fun _ => .int 0)
def mrS (s : State) (c c2 : ClassId) (N K i : Nat) : State := match i with
  | 0 => s.pushCell (mrO c N s.heap.size 0)
  | i + 1 => ((mrS s c c2 N K i).pushCell (mrI c2 K)).setCell s.heap.size (mrO c N s.heap.size (i + 1))
theorem mrO_zero (c : ClassId) (N h : Nat) : ({ cls := c, slots := Array.replicate N .null, vm := .none } : Cell) = mrO c N h 0 := (arrV_new c N .null).trans (congrArg (arrV c N) (funext fun j => by simp [va_rf]))
theorem mrO_succ (c : ClassId) (N h i : Nat) : (mrO c N h i).setSlot i (.ref (h + 1 + i)) = mrO c N h (i + 1) := by
  unfold mrO
  rw [arrV_store]
  refine congrArg (arrV c N) (funext fun j => ?_)
  unfold updV
  by_cases e : j = i
  · rw [if_pos e, if_pos (by omega), e]
    rfl
  · rw [if_neg e]
    show va_rf (if j < i then some (h + 1 + j) else none) = va_rf (if j < i + 1 then some (h + 1 + j) else none)
    by_cases h2 : j < i
    · rw [if_pos h2, if_pos (by omega)]
    · rw [if_neg h2, if_neg (by omega)]
theorem mrI_eq (c : ClassId) (K : Nat) : ({ cls := c, slots := Array.replicate K (.int 0), vm := .none } : Cell) = mrI c K := arrV_new c K (.int 0)
theorem mrO_size (c : ClassId) (N h i : Nat) : (mrO c N h i).slots.size = N := arrV_size ..
theorem mrI_size (c : ClassId) (K : Nat) : (mrI c K).slots.size = K := arrV_size ..
theorem mr_facts (s : State) (c c2 : ClassId) (N K : Nat) : ∀ i : Nat, (mrS s c c2 N K i).heap.size = s.heap.size + 1 + i ∧ (mrS s c c2 N K i).heap[s.heap.size]? = some (mrO c N s.heap.size i) ∧ (mrS s c c2 N K i).vm = s.vm ∧ (mrS s c c2 N K i).slotsUsed = s.slotsUsed + N + i * K ∧ (∀ a : Nat, a < s.heap.size → (mrS s c c2 N K i).heap[a]? = s.heap[a]?) ∧ ∀ j : Nat, j < i → (mrS s c c2 N K i).heap[s.heap.size + 1 + j]? = some (mrI c2 K)
  | 0 => ⟨by simp [mrS], by simp [mrS], rfl, by simp [mrS, mrO_size], fun a ha => State.heap_pushCell_of_lt _ _ ha, fun j hj => absurd hj (Nat.not_lt_zero j)⟩
  | i + 1 => by
    obtain ⟨a1, a2, a3, a4, a5, a6⟩ := mr_facts s c c2 N K i
    have l0 : s.heap.size < (mrS s c c2 N K i).heap.size := by omega
    have b2 : ((mrS s c c2 N K i).pushCell (mrI c2 K)).heap[s.heap.size]? = some (mrO c N s.heap.size i) := by
      rw [State.heap_pushCell_of_lt (h := l0)]
      exact a2
    refine ⟨?_, State.heap_setCell_self b2, ?_, ?_, fun a ha => ?_, fun j hj => ?_⟩
    · simp [mrS, State.setCell, a1]
      omega
    · simp [mrS, a3]
    · simp [mrS, a4, mrI_size, Nat.succ_mul]
      omega
    · show (((mrS s c c2 N K i).pushCell (mrI c2 K)).setCell s.heap.size _).heap[a]? = _
      have l1 : a < (mrS s c c2 N K i).heap.size := by omega
      rw [State.heap_setCell_other (Nat.ne_of_gt ha), State.heap_pushCell_of_lt (h := l1)]
      exact a5 a ha
    · show (((mrS s c c2 N K i).pushCell (mrI c2 K)).setCell s.heap.size _).heap[s.heap.size + 1 + j]? = _
      rw [State.heap_setCell_other (show s.heap.size ≠ s.heap.size + 1 + j by omega)]
      by_cases h2 : j < i
      · have l1 : s.heap.size + 1 + j < (mrS s c c2 N K i).heap.size := by omega
        rw [State.heap_pushCell_of_lt (h := l1)]
        exact a6 j h2
      · rw [show s.heap.size + 1 + j = (mrS s c c2 N K i).heap.size by omega]
        exact State.heap_pushCell_size _ _
theorem mr_top (s : State) (f : JFrame) (c c2 : ClassId) (N K : Nat) : ∀ i : Nat, mrS (s.setTop f) c c2 N K i = (mrS s c c2 N K i).setTop f
  | 0 => rfl
  | i + 1 => by
    have ih := mr_top s f c c2 N K i
    show ((mrS (s.setTop f) c c2 N K i).pushCell _).setCell _ _ = _
    rw [ih]
    rfl
section MrWp
variable {E : CtlPost} {e : Env} {d : Bool} {acts : List Action} {s : State}
/-- one new row of a kind known, all its places as at birth -/
theorem mr_new {c comp : ClassId} {k : Class} {type : FieldType} {len : Nat} {v0 : Value} (hk : s.vm.classes[c]? = some k) (hkind : k.kind = .array comp type) (g1 : ¬ len > e.platform.arrayLengthLimit) (g2 : ¬ len * componentBytes type > e.platform.maxHeapBytes) (hfit : fits type v0 = true) (hdef : v0.isDefault = true) {Q : Addr → Pre} (h1 : s.heap.size < e.platform.maxCells) (h2 : s.slotsUsed + len ≤ e.platform.maxSlots) (hq : Q s.heap.size d acts (s.pushCell { cls := c, slots := Array.replicate len v0, vm := .none })) : wp (Jvm.newArray c len v0) Q E e d acts s := by
  have f1 : ∀ i v, (Array.replicate len v0)[i]? = some v → s.fitsSlot c .none i v = true := fun i v hv => by
    rw [Array.getElem?_replicate] at hv
    by_cases hi : i < len
    · rw [if_pos hi] at hv
      cases hv
      simp [State.fitsSlot, State.slotType?, hk, hkind, hfit]
    · rw [if_neg hi] at hv
      cases hv
  have f2 : allocActs (Array.replicate len v0) s.heap.size acts = acts := by
    unfold allocActs
    rw [if_pos (by rw [Array.all_replicate]; split <;> simp [hdef])]
  simp only [Jvm.newArray, Jvm.arrayFits, wp_bind', W.ask, W.ite, g1, if_false, wp_pure', W.theClass, hk, hkind, g2, W.alloc, W.stop, Option.some.injEq, exists_eq_left', Array.size_replicate, f2]
  rw [if_neg (by omega)]
  exact ⟨h1, h2, f1, hq⟩
/-- all rows -/
theorem mr_make {c c2 cc : ClassId} {k k2 : Class} {n m : Int32} (hk : s.vm.classes[c]? = some k) (hkind : k.kind = .array c2 (.array .int)) (hk2 : s.vm.classes[c2]? = some k2) (hkind2 : k2.kind = .array cc .int) (hn : ¬ n < 0) (hm : ¬ m < 0) (g1 : ¬ n.toNatClampNeg > e.platform.arrayLengthLimit) (g2 : ¬ n.toNatClampNeg * componentBytes (.array .int) > e.platform.maxHeapBytes) (g3 : ¬ m.toNatClampNeg > e.platform.arrayLengthLimit) (g4 : ¬ m.toNatClampNeg * componentBytes .int > e.platform.maxHeapBytes) (h1 : s.heap.size + 1 + n.toNatClampNeg ≤ e.platform.maxCells) (h2 : s.slotsUsed + n.toNatClampNeg + n.toNatClampNeg * m.toNatClampNeg ≤ e.platform.maxSlots) {Q : Addr → Pre} (hq : ∀ d' acts', Q s.heap.size d' acts' (mrS s c c2 n.toNatClampNeg m.toNatClampNeg n.toNatClampNeg)) : wp (Op.multianewarray.make c [n, m]) Q E e d acts s := by
  generalize hNe : n.toNatClampNeg = N at *
  generalize hKe : m.toNatClampNeg = K at *
  rw [Op.multianewarray.make]
  simp only [wp_bind', W.ite, hn, if_false, wp_pure', W.theClass, hk, hkind, Option.some.injEq, exists_eq_left', hNe]
  refine mr_new hk hkind g1 g2 rfl rfl (by omega) (by have := Nat.zero_le (N * K); omega) ?_
  have hf : ([m].find? (· < 0)) = none := by simp [hm]
  simp only [hf]
  rw [ite_self, wp_bind', Std.Legacy.Range.forIn_eq_forIn_range', show ([:N] : Std.Legacy.Range).size = N by simp [Std.Legacy.Range.size], mrO_zero c N s.heap.size]
  show wp (forIn (List.range' 0 N 1) PUnit.unit _) _ E e d acts _
  refine wp_forIn_inv (fun rest u => ∃ i, i ≤ N ∧ rest = List.range' i (N - i) ∧ u = mrS s c c2 N K i) _ _ ⟨0, Nat.zero_le _, rfl, rfl⟩ ?_ ?_
  · rintro x rest u d1 acts1 Q1 ⟨i, hi, hl, rfl⟩ hnext
    have hlt : i < N := by
      by_cases h : i < N
      · exact h
      · rw [show N - i = 0 by omega] at hl
        cases hl
    rw [show N - i = (N - (i + 1)) + 1 by omega, List.range'_succ] at hl
    cases hl
    obtain ⟨a1, a2, a3, a4, -, -⟩ := mr_facts s c c2 N K x
    have l0 : s.heap.size < (mrS s c c2 N K x).heap.size := by omega
    have hmul : x * K + K ≤ N * K := by
      rw [← Nat.succ_mul]
      exact Nat.mul_le_mul_right K hlt
    simp only [wp_bind']
    rw [Op.multianewarray.make]
    simp only [wp_bind', W.ite, hm, if_false, wp_pure', W.theClass, a3, hk2, hkind2, Option.some.injEq, exists_eq_left', hKe]
    refine mr_new (by rw [a3]; exact hk2) hkind2 g3 g4 rfl rfl (by omega) (by omega) ?_
    rw [show defaultValue .int = .int 0 from rfl, mrI_eq]
    simp only [wp_bind', W.writeLoc, wp_pure']
    refine ⟨mrO c N s.heap.size x, by rw [State.heap_pushCell_of_lt (h := l0)]; exact a2, fun h => (by cases h), by rw [mrO_size]; exact hlt, ?_, hnext _ _ _ ⟨x + 1, hlt, rfl, ?_⟩⟩
    · show State.fitsSlot _ c .none x _ = true
      simp [State.fitsSlot, State.slotType?, a3, hk, hkind]
      rfl
    · rw [a1, mrO_succ]
      rfl
  · rintro u d1 acts1 ⟨i, hi, hl, rfl⟩
    have hiN : i = N := by
      by_cases h : i < N
      · rw [show N - i = (N - (i + 1)) + 1 by omega, List.range'_succ] at hl
        cases hl
      · omega
    subst hiN
    simp only [wp_pure']
    exact hq _ _
end MrWp
section MrStand
variable {p : Program} {l : Launch} {e : Env} {R : Room} {s : State} {m : MethodId} {args : Array Value} {below : List Frame} {meth : Method} {c : Code} {T : State} {locs : List Loc} {cells slots : Nat}
theorem mr_stand (X : Stand p l e R s m args below meth c T locs cells slots) (cA c2 : ClassId) (N K : Nat) : ∀ i : Nat, Stand p l e R s m args below meth c (mrS T cA c2 N K i) locs (cells + 1 + i) (slots + N + i * K)
  | 0 => by
    have h := X.pushed (mrO cA N T.heap.size 0)
    rw [mrO_size] at h
    rw [Nat.zero_mul]
    exact h
  | i + 1 => by
    obtain ⟨a1, a2, -⟩ := mr_facts T cA c2 N K i
    have l0 : T.heap.size < (mrS T cA c2 N K i).heap.size := by omega
    have h := ((mr_stand X cA c2 N K i).pushed (mrI c2 K)).stored (a := T.heap.size) (cell := mrO cA N T.heap.size i) (by rw [State.heap_pushCell_of_lt (h := l0)]; exact a2) i (.ref (T.heap.size + 1 + i))
    rw [mrO_succ, mrI_size] at h
    have h9 := Stand.forget h (fun y hy => by
      cases List.mem_singleton.mp hy
      exact X.heapGrown)
    rw [show slots + N + (i + 1) * K = slots + N + i * K + K by rw [Nat.succ_mul]; omega]
    exact h9
theorem mr_over (h : va_Nw (.arrayOver (.array .int)) s) : ∃ comp cA k, s.vm.findClass (FieldType.array .int).toString = some comp ∧ s.vm.classes[cA]? = some k ∧ k.kind = .array comp (.array .int) ∧ s.vm.findClass ("[" ++ (FieldType.array .int).toString) = some cA := by
  unfold va_Nw Cond.before Cond.holds at h
  simp only [Cond.value, beq_iff_eq] at h
  cases hc : s.vm.findClass (FieldType.array .int).toString with
  | none => simp [hc] at h
  | some comp =>
    simp only [hc, Option.bind_some, Option.bind_eq_some_iff, Option.map_eq_some_iff] at h
    obtain ⟨cA, hi, k, hk, hb⟩ := h
    obtain ⟨hlt, hp, -⟩ := Array.findIdx?_eq_some_iff_getElem.mp hi
    rw [(Array.getElem?_eq_some_iff.mp hk).2] at hp
    cases hkk : k.kind with
    | array comp2 ty =>
      rw [hkk] at hb hp
      simp only [Bool.and_eq_true, decide_eq_true_eq] at hb
      have hp2 : comp2 = comp := by simpa using hp
      exact ⟨comp, cA, k, rfl, hk, by rw [hkk, hp2, hb.1], hb.2⟩
    | _ => rw [hkk] at hb; cases hb
theorem mr_step (X : Stand p l e R s m args below meth c T locs cells slots) (hexec : p.tables.exec = Jvm.exec) {own : String} {index : Nat} (hown : s.vm.findClass own = some m.cls) (hclink : (Cond.classLink own index "[[I").before args s = true) (hover : va_Nw (.arrayOver (.array .int)) s) (harr : (Cond.arrayClass .int).before args s = true)
    {g : JFrame} (hg : g.method = m) (hdg : decode c.code g.pc = .ok (.multianewarray index 2, 4)) {n k : Int32} {rest : List Value} (hstack : g.stack = .int k :: .int n :: rest) (hn : ¬ n < 0) (hk : ¬ k < 0) (hb1 : n.toNatClampNeg ≤ 1000) (hb2 : k.toNatClampNeg ≤ 1000) (hcells : cells + (1 + n.toNatClampNeg) ≤ R.cells) (hslots : slots + (n.toNatClampNeg + n.toNatClampNeg * k.toNatClampNeg) ≤ R.slots) :
    ∃ (vm₁ : Vm) (cA comp : ClassId), s.vm.findClass "[[I" = some cA ∧ s.vm.findClass "[I" = some comp ∧ Stand p l e R s m args below meth c (mrS (T.setVm vm₁) cA comp n.toNatClampNeg k.toNatClampNeg n.toNatClampNeg) locs (cells + 1 + n.toNatClampNeg) (slots + n.toNatClampNeg + n.toNatClampNeg * k.toNatClampNeg) ∧
      ∀ target, Steps p.tables e below ((mrS (T.setVm vm₁) cA comp n.toNatClampNeg k.toNatClampNeg n.toNatClampNeg).setTop { g with pc := g.pc + 4, stack := .ref T.heap.size :: rest }) target → Steps p.tables e below (T.setTop g) target := by
  subst hg
  obtain ⟨comp, cA, kA, f1, f2, f3, f4⟩ := mr_over hover
  obtain ⟨comp2, kC, cc, f5, f6, f7⟩ := Cond.arrayClass_spec harr
  have ec : some comp2 = some comp := f5.symm.trans f1
  cases ec
  obtain ⟨c0, f8, hcl⟩ := Cond.classLink_spec hown hclink e.platform (by rw [X.admits.platform])
  have ec : some cA = some c0 := f4.symm.trans f8
  cases ec
  obtain ⟨hg1, hw1, -⟩ := State.classEntry (e := e) X.warmed hcl
  generalize T.vm.noted g.method.cls index (.cls cA) = vm₁ at hg1 hw1
  obtain ⟨kA1, q1, e1⟩ := hw1.alike.2.2 _ _ f2
  obtain ⟨kC1, q2, e2⟩ := hw1.alike.2.2 _ _ f6
  have r1 : kA1.kind = .array comp (.array .int) := by rw [e1]; exact f3
  have r2 : kC1.kind = .array cc .int := by rw [e2]; exact f7
  obtain ⟨o1, o2⟩ := X.roomAbove hcells hslots
  have XF := mr_stand (X.noted hw1) cA comp n.toNatClampNeg k.toNatClampNeg n.toNatClampNeg
  refine ⟨vm₁, cA, comp, f4, f1, XF, fun target hrest => ?_⟩
  have z1 := Launch.admits_arrayLengthLimit X.admits
  have z2 := Launch.admits_maxHeapBytes X.admits
  jvm_step X.here [hexec, hdg]
  simp only [Op.multianewarray.sem, wp_bind', W.resolveClassAt_links (State.method?_setTop g X.here.top) hg1]
  rw [W.popN, if_neg (by decide)]
  refine ⟨g, State.topJava?_setTop' (s := T.setVm vm₁) g X.here.top, [.int n, .int k], rest, rfl, hstack, ?_⟩
  simp only [List.mapM_cons, List.mapM_nil, wp_bind', wp_pure']
  refine mr_make q1 r1 q2 r2 hn hk (by rw [z1]; omega) (by rw [z2]; show ¬ _ * 4 > _; omega) (by rw [z1]; omega) (by rw [z2]; show ¬ _ * 4 > _; omega) (by show T.heap.size + 1 + _ ≤ _; omega) (by show T.slotsUsed + _ + _ ≤ _; omega) (fun d1 acts1 => ?_)
  have eS : ((T.setTop g).setVm vm₁).setTop { g with stack := rest } = (T.setVm vm₁).setTop { g with stack := rest } := by
    show ((T.setVm vm₁).setTop g).setTop _ = _
    exact State.setTop_setTop _ _ _
  rw [eS, mr_top]
  simp only [wp_bind', W.mark, W.pushRef, State.topJava?_setTop' _ XF.here.top, Option.some.injEq, exists_eq_left', State.setTop_setTop, State.heap_setTop]
  intro acts
  simp [jvm, XF.here.top]
  exact hrest
end MrStand
section Rules
variable {M : Meth} {d mc ms pc pc' : Nat} {L : List (Option Value)} {st : List Value} {hp : Hp} {nc ns : Nat} {P : Option Value → Hp → Prop}
/-- the rows that one instruction makes: the outer one, and behind it the inner ones -/
def mnaB (o N K : Nat) : Hp := (11, (List.range N).map (fun j => .ref (o + 1 + j))) :: List.replicate N (8, List.replicate K (.int 0))
theorem mnaB_len (o N K : Nat) : (mnaB o N K).length = N + 1 := by
  unfold mnaB
  rw [List.length_cons, List.length_replicate]
theorem mna_rv {B : Nat} {S : Nat → Nat} {o N : Nat} (h : o + 1 + N ≤ 1000000) : (fun j => rv B S (((List.range N).map (fun j => Value.ref (o + 1 + j))).getD j .null)) = fun j => if j < N then some (B + o + 1 + j) else none := by
  funext j
  rw [List.getD_eq_getElem?_getD, List.getElem?_map]
  by_cases hj : j < N
  · rw [List.getElem?_range hj, if_pos hj]
    show some (ad B S (o + 1 + j)) = _
    rw [ad_lt (by omega)]
    congr 1
    omega
  · rw [List.getElem?_eq_none (by rw [List.length_range]; omega), if_neg hj]
    rfl
theorem g_mna {idx : Nat} {n k : Int32} {N K : Nat} (hd : Dc M.2.1 pc (.multianewarray idx 2) 4 pc') (hc : Cond.classLink M.1.cls idx "[[I" ∈ TT) (hn : ¬ n < 0) (hk : ¬ k < 0) (hN : n.toNatClampNeg = N) (hKK : k.toNatClampNeg = K) (hb1 : N ≤ 1000) (hb2 : K ≤ 1000) (hln : hp.length + 1 + N ≤ 1000000) (h1c : nc + (1 + N) ≤ mc) (h1s : ns + (N + N * K) ≤ ms) (kk : Gd M d mc ms pc' L (.ref hp.length :: st) (hp ++ mnaB hp.length N K) (nc + 1 + N) (ns + N + N * K) P) : Gd M d mc ms pc L (.int k :: .int n :: st) hp nc ns P := by
  obtain ⟨h1, rfl⟩ := hd
  subst hN
  subst hKK
  refine fun l p e s m args below meth c B S D cy H locs ls C hZ hW hS hL => ?_
  intro T hT Xs
  have hsz : H.size = B + hp.length := by
    have g1 := Xs.heapSize
    rw [hT] at g1
    have g2 := wd_le hW (Nat.le_trans C.2.2.2.2.2.2.2.2.2.2 hS.1)
    omega
  obtain ⟨vm₁, cA, comp, fA, fC, X', step⟩ := mr_step Xs C.1 C.2.2.2.2.1 (C.2.2.2.2.2.1 _ hc) C.2.2.2.2.2.2.2.2.2.1.2.2 (C.2.2.2.2.2.1 _ (tt_of 115 (by decide +kernel) rfl)) (g := F0 m pc ls (.int k :: .int n :: st.map (cv B S))) rfl (by rw [C.2.1]; exact h1) rfl hn hk hb1 hb2 h1c h1s
  have e8 : some (cy 8) = some comp := (hW.2.2.2 0 _ rfl).2.symm.trans fC
  have e11 : some (cy 11) = some cA := (hW.2.2.2 3 _ rfl).2.symm.trans fA
  cases e8
  cases e11
  obtain ⟨f1, f2, -, -, hold, hrow⟩ := mr_facts (T.setVm vm₁) (cy 11) (cy 8) n.toNatClampNeg k.toNatClampNeg n.toNatClampNeg
  generalize hF : mrS (T.setVm vm₁) (cy 11) (cy 8) n.toNatClampNeg k.toNatClampNeg n.toNatClampNeg = F at X' step f1 f2 hold hrow
  have hTh : (T.setVm vm₁).heap = H := hT
  rw [hTh] at f1 f2 hold hrow
  have hP0 : va_P D vwCl (wO B S cy hp) F.heap := hW.2.1.kept (fun k9 x hx => hold x.1 ((hW.2.1 k9 x hx).lt))
  have hP : va_P D vwCl (wO B S cy (hp ++ mnaB hp.length n.toNatClampNeg k.toNatClampNeg)) F.heap := by
    intro i x hx
    obtain ⟨q, hq, rfl⟩ := wO_back hx
    by_cases h2 : i < hp.length
    · rw [List.getElem?_append_left h2] at hq
      exact hP0 i _ (wO_at hq)
    · rw [List.getElem?_append_right (by omega)] at hq
      cases hi : i - hp.length with
      | zero =>
        rw [hi] at hq
        cases hq
        rw [ce_ref (by decide), List.length_map, List.length_range, mna_rv hln, show B + i = H.size by omega, show B + hp.length = H.size by omega]
        exact f2
      | succ j =>
        rw [hi] at hq
        have hq2 : (List.replicate n.toNatClampNeg ((8, List.replicate k.toNatClampNeg (.int 0)) : Nat × List Value))[j]? = some q := hq
        rw [List.getElem?_replicate] at hq2
        by_cases hj : j < n.toNatClampNeg
        · rw [if_pos hj] at hq2
          cases hq2
          rw [ce_int (by decide) (by decide), List.length_replicate, zI_iv, show B + i = H.size + 1 + j by omega]
          exact hrow j hj
        · rw [if_neg hj] at hq2
          cases hq2
  have kk2 := kk l p e s m args below meth c B S D cy F.heap locs ls C (by rw [List.length_append, mnaB_len]; omega) ⟨by rw [List.length_append, mnaB_len]; omega, hP, hW.2.2⟩ ⟨by rw [f1]; have := hS.1; omega, fun x h1 h2 => (hold x (Nat.lt_of_lt_of_le h1 hS.1)).trans (hS.2.1 x h1 h2), hS.2.2⟩ hL
  obtain ⟨t, a1, b1⟩ := kk2 F rfl X'
  refine ⟨t, step t ?_, b1⟩
  have e : T.heap.size = H.size := by rw [hT]
  rw [e, hsz]
  rw [List.map_cons, stk_ref (by omega)] at a1
  exact a1
end Rules
section Rules
variable {M : Meth} {d mc ms pc pc' : Nat} {L : List (Option Value)} {st : List Value} {pre blk blk' : Hp} {nc ns nc' ns' o q a i : Nat} {P : Option Value → Hp → Prop}
theorem b_mna {idx : Nat} {n k : Int32} {N K : Nat} (ho : pre.length = o) (hd : Dc M.2.1 pc (.multianewarray idx 2) 4 pc') (hc : Cond.classLink M.1.cls idx "[[I" ∈ TT) (hn : ¬ n < 0) (hk : ¬ k < 0) (hN : n.toNatClampNeg = N) (hKK : k.toNatClampNeg = K) (hb1 : N ≤ 1000) (hb2 : K ≤ 1000) (hq : o + blk.length = q) (hln : q + 1 + N ≤ 1000000) (hb : blk ++ mnaB q N K = blk') (h1c : nc + (1 + N) ≤ mc) (h1s : ns + (N + N * K) ≤ ms) (hnc : nc + 1 + N = nc') (hns : ns + N + N * K = ns') (kk : Gd M d mc ms pc' L (.ref q :: st) (pre ++ blk') nc' ns' P) : Gd M d mc ms pc L (.int k :: .int n :: st) (pre ++ blk) nc ns P := by
  subst hb hnc hns
  have e : (pre ++ blk).length = q := by rw [List.length_append]; omega
  refine g_mna hd hc hn hk hN hKK hb1 hb2 (by rw [e]; exact hln) h1c h1s ?_
  rw [e, List.append_assoc]
  exact kk
end Rules
theorem hk_4_18 : Cond.classLink RX4 18 "[[I" ∈ TT := tt_of 101 (by decide +kernel) rfl
theorem i_rows : RowsI := fun o pre ho h9 => by
  refine Mt.of [some (.ref o)] (by decide +kernel) rfl rfl ?_
  show Gd _ _ _ _ _ _ _ (pre ++ [(4, [.null, .null, .null])]) _ _ _
  refine g_aload_n d_X4_init_0 rfl ?_
  refine g_obj d_X4_init_1 oi_4 (by decide) (by decide) ?_
  refine g_aload_n d_X4_init_4 rfl ?_
  refine g_bipush (v := 8) d_X4_init_5 (by decide +kernel) ?_
  refine b_newI (N := 8) (q := (o + 1)) (blk' := [(4, [.null, .null, .null]), (8, List.replicate 8 (.int 0))]) (nc' := 1) (ns' := 8) ho d_X4_init_7 (by decide) (by decide +kernel) rfl rfl rfl (by omega) rfl rfl (by decide) (by decide) ?_
  refine g_dup d_X4_init_9 rfl ?_
  refine g_iconst (v := 0) d_X4_init_10 (by decide +kernel) ?_
  refine g_iconst (v := (-1)) d_X4_init_11 (by decide +kernel) ?_
  refine b_iast (i := 1) (blk' := [(4, [.null, .null, .null]), (8, [(.int (-1)), (.int 0), (.int 0), (.int 0), (.int 0), (.int 0), (.int 0), (.int 0)])]) ho d_X4_init_12 rfl rfl (by unfold vp_in; decide) rfl ?_
  refine g_dup d_X4_init_13 rfl ?_
  refine g_iconst (v := 1) d_X4_init_14 (by decide +kernel) ?_
  refine g_iconst (v := (-1)) d_X4_init_15 (by decide +kernel) ?_
  refine b_iast (i := 1) (blk' := [(4, [.null, .null, .null]), (8, [(.int (-1)), (.int (-1)), (.int 0), (.int 0), (.int 0), (.int 0), (.int 0), (.int 0)])]) ho d_X4_init_16 rfl rfl (by unfold vp_in; decide) rfl ?_
  refine g_dup d_X4_init_17 rfl ?_
  refine g_iconst (v := 2) d_X4_init_18 (by decide +kernel) ?_
  refine g_iconst (v := (-1)) d_X4_init_19 (by decide +kernel) ?_
  refine b_iast (i := 1) (blk' := [(4, [.null, .null, .null]), (8, [(.int (-1)), (.int (-1)), (.int (-1)), (.int 0), (.int 0), (.int 0), (.int 0), (.int 0)])]) ho d_X4_init_20 rfl rfl (by unfold vp_in; decide) rfl ?_
  refine g_dup d_X4_init_21 rfl ?_
  refine g_iconst (v := 3) d_X4_init_22 (by decide +kernel) ?_
  refine g_iconst (v := (-1)) d_X4_init_23 (by decide +kernel) ?_
  refine b_iast (i := 1) (blk' := [(4, [.null, .null, .null]), (8, [(.int (-1)), (.int (-1)), (.int (-1)), (.int (-1)), (.int 0), (.int 0), (.int 0), (.int 0)])]) ho d_X4_init_24 rfl rfl (by unfold vp_in; decide) rfl ?_
  refine g_dup d_X4_init_25 rfl ?_
  refine g_iconst (v := 4) d_X4_init_26 (by decide +kernel) ?_
  refine g_iconst (v := (-1)) d_X4_init_27 (by decide +kernel) ?_
  refine b_iast (i := 1) (blk' := [(4, [.null, .null, .null]), (8, [(.int (-1)), (.int (-1)), (.int (-1)), (.int (-1)), (.int (-1)), (.int 0), (.int 0), (.int 0)])]) ho d_X4_init_28 rfl rfl (by unfold vp_in; decide) rfl ?_
  refine g_dup d_X4_init_29 rfl ?_
  refine g_iconst (v := 5) d_X4_init_30 (by decide +kernel) ?_
  refine g_iconst (v := (-1)) d_X4_init_31 (by decide +kernel) ?_
  refine b_iast (i := 1) (blk' := [(4, [.null, .null, .null]), (8, [(.int (-1)), (.int (-1)), (.int (-1)), (.int (-1)), (.int (-1)), (.int (-1)), (.int 0), (.int 0)])]) ho d_X4_init_32 rfl rfl (by unfold vp_in; decide) rfl ?_
  refine g_dup d_X4_init_33 rfl ?_
  refine g_bipush (v := 6) d_X4_init_34 (by decide +kernel) ?_
  refine g_iconst (v := (-1)) d_X4_init_36 (by decide +kernel) ?_
  refine b_iast (i := 1) (blk' := [(4, [.null, .null, .null]), (8, [(.int (-1)), (.int (-1)), (.int (-1)), (.int (-1)), (.int (-1)), (.int (-1)), (.int (-1)), (.int 0)])]) ho d_X4_init_37 rfl rfl (by unfold vp_in; decide) rfl ?_
  refine g_dup d_X4_init_38 rfl ?_
  refine g_bipush (v := 7) d_X4_init_39 (by decide +kernel) ?_
  refine g_iconst (v := (-1)) d_X4_init_41 (by decide +kernel) ?_
  refine b_iast (i := 1) (blk' := [(4, [.null, .null, .null]), (8, List.replicate 8 (.int (-1)))]) ho d_X4_init_42 rfl rfl (by unfold vp_in; decide) rfl ?_
  refine b_putF (i := 0) (blk' := [(4, [(.ref (o + 1)), .null, .null]), (8, List.replicate 8 (.int (-1)))]) ho d_X4_init_43 fl_4_11 rfl rfl rfl rfl (Nat.le_of_ble_eq_true rfl) rfl (fun _ _ => ⟨rfl, rfl⟩) ?_
  refine g_aload_n d_X4_init_46 rfl ?_
  refine g_bipush (v := 8) d_X4_init_47 (by decide +kernel) ?_
  refine b_newI (N := 8) (q := (o + 2)) (blk' := [(4, [(.ref (o + 1)), .null, .null]), (8, List.replicate 8 (.int (-1))), (8, List.replicate 8 (.int 0))]) (nc' := 2) (ns' := 16) ho d_X4_init_49 (by decide) (by decide +kernel) rfl rfl rfl (by omega) rfl rfl (by decide) (by decide) ?_
  refine b_putF (i := 0) (blk' := [(4, [(.ref (o + 1)), (.ref (o + 2)), .null]), (8, List.replicate 8 (.int (-1))), (8, List.replicate 8 (.int 0))]) ho d_X4_init_51 fl_4_15 rfl rfl rfl rfl (Nat.le_of_ble_eq_true rfl) rfl (fun _ _ => ⟨rfl, rfl⟩) ?_
  refine g_aload_n d_X4_init_54 rfl ?_
  refine g_bipush (v := 8) d_X4_init_55 (by decide +kernel) ?_
  refine g_bipush (v := 40) d_X4_init_57 (by decide +kernel) ?_
  refine b_mna (N := 8) (K := 40) (q := (o + 3)) (blk' := [(4, [(.ref (o + 1)), (.ref (o + 2)), .null]), (8, List.replicate 8 (.int (-1))), (8, List.replicate 8 (.int 0)), (11, [(.ref (o + 4)), (.ref (o + 5)), (.ref (o + 6)), (.ref (o + 7)), (.ref (o + 8)), (.ref (o + 9)), (.ref (o + 10)), (.ref (o + 11))]), (8, List.replicate 40 (.int 0)), (8, List.replicate 40 (.int 0)), (8, List.replicate 40 (.int 0)), (8, List.replicate 40 (.int 0)), (8, List.replicate 40 (.int 0)), (8, List.replicate 40 (.int 0)), (8, List.replicate 40 (.int 0)), (8, List.replicate 40 (.int 0))]) (nc' := 11) (ns' := 344) ho d_X4_init_59 hk_4_18 (by decide) (by decide) (by decide +kernel) (by decide +kernel) (by decide) (by decide) rfl (by omega) rfl (by decide) (by decide) rfl rfl ?_
  refine b_putF (i := 0) (blk' := [(4, [(.ref (o + 1)), (.ref (o + 2)), (.ref (o + 3))]), (8, List.replicate 8 (.int (-1))), (8, List.replicate 8 (.int 0)), (11, [(.ref (o + 4)), (.ref (o + 5)), (.ref (o + 6)), (.ref (o + 7)), (.ref (o + 8)), (.ref (o + 9)), (.ref (o + 10)), (.ref (o + 11))]), (8, List.replicate 40 (.int 0)), (8, List.replicate 40 (.int 0)), (8, List.replicate 40 (.int 0)), (8, List.replicate 40 (.int 0)), (8, List.replicate 40 (.int 0)), (8, List.replicate 40 (.int 0)), (8, List.replicate 40 (.int 0)), (8, List.replicate 40 (.int 0))]) ho d_X4_init_63 fl_4_20 rfl rfl rfl rfl (Nat.le_of_ble_eq_true rfl) rfl (fun _ _ => ⟨rfl, rfl⟩) ?_
  exact g_vret d_X4_init_66 rfl (by decide) (by decide) ⟨rfl, rfl⟩

/-! THE JUDGEMENT Gd: the machine at a frame of one of our methods, over a heap told as a list of cells by their numbers -/
abbrev Hp : Type := List (Nat × List Value)
abbrev Meth : Type := MethodName × ByteArray × Nat × Option FieldType
def TT : List Cond := lw_tbl.filter goodWord
theorem tt_of {w : Cond} (i : Nat) (h : lw_tbl[i]? = some w) (hg : goodWord w = true) : w ∈ TT := List.mem_filter.mpr ⟨List.mem_of_getElem? h, hg⟩
theorem tt_good : GoodIn TT TT := fun w h => ⟨h, good_of_word (List.mem_filter.mp h).2⟩
/-- words that a warmed machine keeps by laws of their own -/
def NW : List Cond := [.methodLinkNest RX6 9 yX4_init RX6, .methodLinkNest RX6 18 yX5_init RX6, .methodLinkNest RX6 25 yX2_init RX6, .methodLinkNest RX0 17 yX2_init RX6, .methodLinkNest RX6 46 yX3_init RX6, .methodLinkNest RX6 53 yX1_init RX6, .fieldLinkNest RX1 32 RX6 "NEAREST" "[I" RX6, .fieldLinkNest RX1 35 RX6 "SIZE_BODIES" "[I" RX6, .fieldLinkNest RX1 38 RX6 "MARK_BODIES" "[I" RX6]
def Nx (U : State) : Prop := (∀ w ∈ NW, va_Nw w U) ∧ va_AO RX2 U ∧ va_Nw (.arrayOver (.array .int)) U
abbrev Dc (cc : ByteArray) (pc : Nat) (i : Instr) (n pc' : Nat) : Prop := decode cc pc = .ok (i, n) ∧ pc + n = pc'
/-- where a cell lies: the ones that the law makes from B on, the static rows apart -/
def ad (B : Nat) (S : Nat → Nat) (i : Nat) : Nat := if i < 1000000 then B + i else S (i - 1000000)
def cv (B : Nat) (S : Nat → Nat) (v : Value) : Value := match v with
  | .ref i => .ref (ad B S i)
  | w => w
def iv (v : Value) : Int32 := match v with
  | .int x => x
  | _ => 0
def rv (B : Nat) (S : Nat → Nat) (v : Value) : Option Nat := match v with
  | .ref i => some (ad B S i)
  | _ => none
def ce (B : Nat) (S : Nat → Nat) (cy : Nat → ClassId) (q : Nat × List Value) : va_E :=
  if q.1 < 8 then .inr (q.1, q.2.map (cv B S)) else if q.1 < 10 then .inl (cy q.1, q.2.length, .inl (fun j => iv (q.2.getD j .null)))
  else .inl (cy q.1, q.2.length, .inr (.inr (.inr (.inr (fun j => rv B S (q.2.getD j .null))))))
def wO (B : Nat) (S : Nat → Nat) (cy : Nat → ClassId) (hp : Hp) : va_W := hp.mapIdx (fun i q => (B + i, ce B S cy q))
def tyl (cy : Nat → ClassId) : List (ClassId × FieldType) := [(cy 8, .int), (cy 9, .boolean), (cy 10, .object RX2), (cy 11, .array .int)]
def Wd (B : Nat) (S : Nat → Nat) (D : va_G) (cy : Nat → ClassId) (hp : Hp) (U : State) (H : Heap) : Prop :=
  hp.length ≤ 1000000 ∧ va_P D vwCl (wO B S cy hp) H ∧ va_K D vwCl (tyl cy) U
def sN (j : Nat) : String := if j = 0 then "NEAREST" else if j = 1 then "SIZE_BODIES" else "MARK_BODIES"
def sT (j k : Nat) : Int32 := ([[-1, 0, 1, 1, 0, 4], [10, 11, 12, 0, 13, 14], [20, 21, 24, 22, 23, 0]] : List (List Int32)).getD j [] |>.getD k 0
def Sd (B : Nat) (S : Nat → Nat) (U : State) (H : Heap) : Prop := ∀ j : Nat, j < 3 → va_Z RX6 (sN j) "[I" (.ref (S j)) (fun q => B ≤ q) U H ∧ va_T .int (S j) 6 (fun k => .int (sT j k)) (fun q => B ≤ q) U H
def Cx (M : Meth) (p : Program) (s : State) (m : MethodId) (args : Array Value) (meth : Method) (c : Code) (B : Nat) (S : Nat → Nat) : Prop :=
  p.tables.exec = Jvm.exec ∧ c.code = M.2.1 ∧ meth.sig.returnType = M.2.2.2 ∧ c.maxLocals = M.2.2.1 ∧ s.vm.findClass M.1.cls = some m.cls ∧ (∀ w ∈ TT, w.before args s = true) ∧ meth.locks = false ∧ meth.name = M.1.name ∧ Sd B S s s.heap ∧ Nx s ∧ B ≤ s.heap.size
def Lh (M : Meth) (B : Nat) (S : Nat → Nat) (ls : Array Slot) (L : List (Option Value)) : Prop := ls.size = M.2.2.1 ∧ L.length = M.2.2.1 ∧ lv_wf ls ∧ ∀ (i : Nat) (v : Value), L[i]? = some (some v) → ls[i]? = some (.val (cv B S v))
def Qm (B : Nat) (S : Nat → Nat) (D : va_G) (cy : Nat → ClassId) (P : Option Value → Hp → Prop) : Array Value → State → Outcome → State → Prop := fun _ st oc t =>
  (∃ (v : Option Value) (hp' : Hp), oc = .returned (v.map (cv B S)) ∧ P v hp' ∧ Wd B S D cy hp' t t.heap) ∧ va_F (fun q => B ≤ q) st t
def Rm (d mc ms : Nat) : Room := { frames := d, cells := mc, slots := ms, locals := 100 * d }
def wM (M : Meth) : List Cond := .code M.1 M.2.1 M.2.2.1 M.2.2.2 :: TT
def Gd (M : Meth) (d mc ms pc : Nat) (L : List (Option Value)) (st : List Value) (hp : Hp) (nc ns : Nat) (P : Option Value → Hp → Prop) : Prop :=
  ∀ (l : Launch) (p : Program) (e : Env) (s : State) (m : MethodId) (args : Array Value) (below : List Frame) (meth : Method) (c : Code) (B : Nat) (S : Nat → Nat) (D : va_G) (cy : Nat → ClassId) (H : Heap) (locs : List Loc) (ls : Array Slot),
    Cx M p s m args meth c B S → s.heap.size + nc = B + hp.length → Wd B S D cy hp s H → va_S (fun q => B ≤ q) s.heap H locs → Lh M B S ls L →
    W p l e (Rm d mc ms) s m args below meth c H locs nc ns (MQ below (Qm B S D cy P) args s mc ms (fun q => B ≤ q)) (F0 m pc ls (st.map (cv B S)))
def Mt (M : Meth) (d mc ms : Nat) (As : List Value) (hp : Hp) (P : Option Value → Hp → Prop) : Prop :=
  ∀ (l : Launch) (B : Nat) (S : Nat → Nat) (D : va_G) (cy : Nat → ClassId), Met l M.1 (wM M) (Rm d mc ms) (va_Pc (As.map (cv B S)) (fun U => U.heap.size = B + hp.length ∧ Wd B S D cy hp U U.heap ∧ Sd B S U U.heap ∧ Nx U)) (Qm B S D cy P) mc ms (fun q => B ≤ q)
/-! what is kept -/
theorem aoa_moved {u U : State} (hvm : u.vm.Alike U.vm) (h : va_Nw (.arrayOver (.array .int)) u) : va_Nw (.arrayOver (.array .int)) U := by
  unfold va_Nw Cond.before Cond.holds at h ⊢
  simp only [Cond.value, beq_iff_eq] at h ⊢
  cases hc : u.vm.findClass (FieldType.array .int).toString with
  | none => simp [hc] at h
  | some comp =>
    simp only [hc, Option.bind_some, Option.bind_eq_some_iff, Option.map_eq_some_iff] at h
    obtain ⟨c, hi, k, hk, hb⟩ := h
    obtain ⟨k', hk', he⟩ := hvm.2.2 _ _ hk
    have hi2 : (U.vm.classes.findIdx? fun (x : Class) => match x.kind with | .array component _ => component == comp | _ => false) = some c := (va_idx_bare U.vm comp).symm.trans (by
      rw [hvm.bare_eq]
      exact (va_idx_bare u.vm comp).trans hi)
    have hkk : k'.kind = k.kind := by rw [he]
    have f1 : U.vm.findClass (FieldType.array .int).toString = some comp := by rw [hvm.findClass]; exact hc
    rw [f1, Option.bind_some]
    refine (congrArg (fun o : Option Nat => o.bind (fun c => (U.vm.classes[c]?).map fun (k : Class) => match k.kind with | .array _ ty => decide (ty = FieldType.array .int) && decide (U.vm.findClass ("[" ++ (FieldType.array .int).toString) = some c) | _ => false)) hi2).trans ?_
    rw [Option.bind_some, hk', Option.map_some, hkk, hvm.findClass]
    exact congrArg some hb
theorem nx_warm {s U : State} (hW : s.WarmedH U.vm) (h : Nx s) : Nx U := by
  refine ⟨fun w hw => ?_, h.2.1.moved hW.alike, ?_⟩
  · have h1 := h.1 w hw
    simp only [NW, List.mem_cons, List.not_mem_nil, or_false] at hw
    rcases hw with rfl | rfl | rfl | rfl | rfl | rfl | rfl | rfl | rfl
    · exact h1.warmM hW
    · exact h1.warmM hW
    · exact h1.warmM hW
    · exact h1.warmM hW
    · exact h1.warmM hW
    · exact h1.warmM hW
    · exact h1.warmF hW
    · exact h1.warmF hW
    · exact h1.warmF hW
  · exact aoa_moved hW.alike h.2.2
theorem nx_same {s U : State} (h : s.vm = U.vm) (hN : Nx s) : Nx U := by
  refine ⟨fun w hw => ?_, va_AO.moved (by rw [h]; exact Vm.Alike.refl _) hN.2.1, aoa_moved (by rw [h]; exact Vm.Alike.refl _) hN.2.2⟩
  have h1 := hN.1 w hw
  simp only [NW, List.mem_cons, List.not_mem_nil, or_false] at hw
  rcases hw with rfl | rfl | rfl | rfl | rfl | rfl | rfl | rfl | rfl <;> exact va_Nw.same rfl h h1
theorem sd_kept {B : Nat} {S : Nat → Nat} {U : State} {H H1 : Heap} (h : Sd B S U H) (hq : ∀ a : Nat, a < H.size → ¬ B ≤ a → H1[a]? = H[a]?) : Sd B S U H1 := fun j hj => ⟨(h j hj).1.kept hq, (h j hj).2.kept hq⟩
theorem sd_moved {B : Nat} {S : Nat → Nat} {u U : State} {H : Heap} (hvm : u.vm.Alike U.vm) (h : Sd B S u H) : Sd B S U H := fun j hj => ⟨va_Z.moved hvm (h j hj).1, va_T.moved hvm (h j hj).2⟩
theorem ad_lt {B : Nat} {S : Nat → Nat} {i : Nat} (h : i < 1000000) : ad B S i = B + i := if_pos h
theorem wO_at {B : Nat} {S : Nat → Nat} {cy : Nat → ClassId} {hp : Hp} {i : Nat} {q : Nat × List Value} (h : hp[i]? = some q) : (wO B S cy hp)[i]? = some (B + i, ce B S cy q) := by
  unfold wO
  rw [List.getElem?_mapIdx, h]
  rfl
theorem wO_back {B : Nat} {S : Nat → Nat} {cy : Nat → ClassId} {hp : Hp} {i : Nat} {x : Nat × va_E} (h : (wO B S cy hp)[i]? = some x) : ∃ q, hp[i]? = some q ∧ x = (B + i, ce B S cy q) := by
  unfold wO at h
  rw [List.getElem?_mapIdx] at h
  cases hi : hp[i]? with
  | none => rw [hi] at h; cases h
  | some q => rw [hi] at h; exact ⟨q, rfl, (Option.some.inj h).symm⟩
theorem wO_D {B : Nat} {S : Nat → Nat} {cy : Nat → ClassId} {hp : Hp} : va_D (fun q => B ≤ q) (wO B S cy hp) := by
  refine ⟨fun i j x y hi hj h => ?_, fun k x hx => ?_⟩
  · obtain ⟨q, -, rfl⟩ := wO_back hi
    obtain ⟨q', -, rfl⟩ := wO_back hj
    have h' : B + i = B + j := h
    omega
  · obtain ⟨q, -, rfl⟩ := wO_back hx
    exact Nat.le_add_right B k
theorem wd_le {B : Nat} {S : Nat → Nat} {D : va_G} {cy : Nat → ClassId} {hp : Hp} {U : State} {H : Heap} (h : Wd B S D cy hp U H) (hB : B ≤ H.size) : B + hp.length ≤ H.size := by
  rcases Nat.eq_zero_or_pos hp.length with h0 | h0
  · omega
  · have hx : hp[hp.length - 1]? = some (hp[hp.length - 1]'(by omega)) := List.getElem?_eq_getElem (by omega)
    have := (h.2.1 _ _ (wO_at hx)).lt
    have h2 : B + (hp.length - 1) < H.size := this
    omega
theorem wO_set {B : Nat} {S : Nat → Nat} {cy : Nat → ClassId} {hp : Hp} {i : Nat} {q : Nat × List Value} : (wO B S cy hp).set i (B + i, ce B S cy q) = wO B S cy (hp.set i q) := by
  apply List.ext_getElem?
  intro j
  unfold wO
  rw [List.getElem?_mapIdx]
  by_cases h : i = j
  · subst h
    by_cases hl : i < hp.length
    · rw [List.getElem?_set_self (by rw [List.length_mapIdx]; exact hl), List.getElem?_set_self hl]
      rfl
    · rw [List.getElem?_eq_none (by rw [List.length_set, List.length_mapIdx]; omega), List.getElem?_eq_none (by rw [List.length_set]; omega)]
      rfl
  · rw [List.getElem?_set_ne h, List.getElem?_set_ne h, List.getElem?_mapIdx]
theorem wO_push {B : Nat} {S : Nat → Nat} {cy : Nat → ClassId} {hp : Hp} {q : Nat × List Value} : wO B S cy hp ++ [(B + hp.length, ce B S cy q)] = wO B S cy (hp ++ [q]) := by
  unfold wO
  rw [List.mapIdx_append]
  simp
/-! the entry of a method -/
def leA (vs : List Value) : List (Option Value) := match vs with
  | [] => []
  | v :: vs => if v.category = 2 then some v :: none :: leA vs else some v :: leA vs
def Le (n : Nat) (vs : List Value) : List (Option Value) := leA vs ++ List.replicate (n - (leA vs).length) none
theorem cv_cat (B : Nat) (S : Nat → Nat) (v : Value) : (cv B S v).category = v.category := by cases v <;> rfl
theorem leA_len (B : Nat) (S : Nat → Nat) : ∀ vs : List Value, (lg_sl (vs.map (cv B S))).length = (leA vs).length
  | [] => rfl
  | v :: vs => by
    have ih := leA_len B S vs
    unfold lg_sl at ih ⊢
    rw [List.map_cons, List.flatMap_cons, List.length_append, ih, cv_cat, show leA (v :: vs) = if v.category = 2 then some v :: none :: leA vs else some v :: leA vs from rfl]
    by_cases h : v.category = 2
    · rw [if_pos h, if_pos h]
      simp only [List.length_cons, List.length_nil]
      omega
    · rw [if_neg h, if_neg h]
      simp only [List.length_cons, List.length_nil]
      omega
theorem leA_in (B : Nat) (S : Nat → Nat) : ∀ (vs : List Value) (b j : Nat) (v : Value), (leA vs)[j]? = some (some v) → (b + j, cv B S v) ∈ lv_args b (vs.map (cv B S))
  | [], b, j, v, h => by simp [leA] at h
  | w :: vs, b, j, v, h => by
    rw [List.map_cons, lv_args, cv_cat]
    unfold leA at h
    by_cases hc : w.category = 2
    · rw [if_pos hc] at h
      rw [if_pos hc]
      match j, h with
      | 0, h =>
        simp only [List.getElem?_cons_zero, Option.some.injEq] at h
        rw [← h]
        exact List.mem_cons_self
      | 1, h => simp at h
      | j + 2, h =>
        simp only [List.getElem?_cons_succ] at h
        have := leA_in B S vs (b + 2) j v h
        rw [show b + (j + 2) = b + 2 + j by omega]
        exact List.mem_cons_of_mem _ this
    · rw [if_neg hc] at h
      rw [if_neg hc]
      match j, h with
      | 0, h =>
        simp only [List.getElem?_cons_zero, Option.some.injEq] at h
        rw [← h]
        exact List.mem_cons_self
      | j + 1, h =>
        simp only [List.getElem?_cons_succ] at h
        have := leA_in B S vs (b + 1) j v h
        rw [show b + (j + 1) = b + 1 + j by omega]
        exact List.mem_cons_of_mem _ this
theorem Mt.of {M : Meth} {d mc ms : Nat} {As : List Value} {hp : Hp} {P : Option Value → Hp → Prop} (L : List (Option Value)) (hy : plainName M.1.cls = true) (hn : Nat.ble (leA As).length M.2.2.1 = true) (hL : Le M.2.2.1 As = L) (k : Gd M d mc ms 0 L [] hp 0 0 P) : Mt M d mc ms As hp P := by
  intro l B S D cy
  refine Met.ofW (cc := M.2.1) (maxL := M.2.2.1) (ret := M.2.2.2) hy rfl ?_
  intro p e s m args below meth c s₁ Bd hml hv
  obtain ⟨rfl, hz, hWd, hSd, hNx⟩ := hv
  have hts := atoms_spec (ws := wM M) Bd.pre
  have hle := Nat.le_of_ble_eq_true hn
  have C : Cx M p s m _ meth c B S := ⟨Bd.exec, Bd.bytes, Bd.returns, hml, findClass_of_methodNamed Bd.named, fun w hw => hts w (List.mem_cons_of_mem _ hw), Bd.notSynchronized, (name_of_methodNamed Bd.named Bd.method).1, hSd, hNx, by omega⟩
  have hl := lv_entry (As.map (cv B S)) (n := M.2.2.1) (by rw [leA_len]; exact hle)
  rw [lg_entry_eq]
  refine k l p e s m _ below meth c B S D cy s.heap [] _ C hz hWd va_S.rf ⟨hl.1, ?_, hl.2.1, fun i v h => ?_⟩
  · rw [← hL]
    unfold Le
    rw [List.length_append, List.length_replicate]
    omega
  · refine hl.2.2 (i, cv B S v) ?_
    have h2 := leA_in B S As 0 i v
    rw [Nat.zero_add] at h2
    refine h2 ?_
    rw [← hL] at h
    unfold Le at h
    by_cases hi : i < (leA As).length
    · rw [List.getElem?_append_left hi] at h
      exact h
    · rw [List.getElem?_append_right (by omega), List.getElem?_replicate] at h
      split at h
      · cases h
      · cases h
section Rules
variable {M : Meth} {d mc ms pc pc' : Nat} {L : List (Option Value)} {st : List Value} {hp : Hp} {nc ns : Nat} {P : Option Value → Hp → Prop}
theorem g_iadd {x y : Int32} (hd : Dc M.2.1 pc .iadd 1 pc')  (k : Gd M d mc ms pc' L (.int (x + y) :: st) hp nc ns P) : Gd M d mc ms pc L (.int y :: .int x :: st) hp nc ns P := by
  obtain ⟨h1, rfl⟩ := hd
  exact fun l p e s m args below meth c B S D cy H locs ls C hZ hW hS hL => lv_iadd C.1 C.2.1 h1 (k l p e s m args below meth c B S D cy H locs ls C hZ hW hS hL)
theorem g_isub {x y : Int32} (hd : Dc M.2.1 pc .isub 1 pc')  (k : Gd M d mc ms pc' L (.int (x - y) :: st) hp nc ns P) : Gd M d mc ms pc L (.int y :: .int x :: st) hp nc ns P := by
  obtain ⟨h1, rfl⟩ := hd
  exact fun l p e s m args below meth c B S D cy H locs ls C hZ hW hS hL => lv_isub C.1 C.2.1 h1 (k l p e s m args below meth c B S D cy H locs ls C hZ hW hS hL)
theorem g_imul {x y : Int32} (hd : Dc M.2.1 pc .imul 1 pc')  (k : Gd M d mc ms pc' L (.int (x * y) :: st) hp nc ns P) : Gd M d mc ms pc L (.int y :: .int x :: st) hp nc ns P := by
  obtain ⟨h1, rfl⟩ := hd
  exact fun l p e s m args below meth c B S D cy H locs ls C hZ hW hS hL => lv_imul C.1 C.2.1 h1 (k l p e s m args below meth c B S D cy H locs ls C hZ hW hS hL)
theorem g_iand {x y : Int32} (hd : Dc M.2.1 pc .iand 1 pc')  (k : Gd M d mc ms pc' L (.int (x &&& y) :: st) hp nc ns P) : Gd M d mc ms pc L (.int y :: .int x :: st) hp nc ns P := by
  obtain ⟨h1, rfl⟩ := hd
  exact fun l p e s m args below meth c B S D cy H locs ls C hZ hW hS hL => lv_iand C.1 C.2.1 h1 (k l p e s m args below meth c B S D cy H locs ls C hZ hW hS hL)
theorem g_ior {x y : Int32} (hd : Dc M.2.1 pc .ior 1 pc')  (k : Gd M d mc ms pc' L (.int (x ||| y) :: st) hp nc ns P) : Gd M d mc ms pc L (.int y :: .int x :: st) hp nc ns P := by
  obtain ⟨h1, rfl⟩ := hd
  exact fun l p e s m args below meth c B S D cy H locs ls C hZ hW hS hL => lv_ior C.1 C.2.1 h1 (k l p e s m args below meth c B S D cy H locs ls C hZ hW hS hL)
theorem g_ixor {x y : Int32} (hd : Dc M.2.1 pc .ixor 1 pc')  (k : Gd M d mc ms pc' L (.int (x ^^^ y) :: st) hp nc ns P) : Gd M d mc ms pc L (.int y :: .int x :: st) hp nc ns P := by
  obtain ⟨h1, rfl⟩ := hd
  exact fun l p e s m args below meth c B S D cy H locs ls C hZ hW hS hL => lv_ixor C.1 C.2.1 h1 (k l p e s m args below meth c B S D cy H locs ls C hZ hW hS hL)
theorem g_ishl {x y : Int32} (hd : Dc M.2.1 pc .ishl 1 pc')  (k : Gd M d mc ms pc' L (.int (x <<< (y &&& 31)) :: st) hp nc ns P) : Gd M d mc ms pc L (.int y :: .int x :: st) hp nc ns P := by
  obtain ⟨h1, rfl⟩ := hd
  exact fun l p e s m args below meth c B S D cy H locs ls C hZ hW hS hL => lv_ishl C.1 C.2.1 h1 (k l p e s m args below meth c B S D cy H locs ls C hZ hW hS hL)
theorem g_ishr {x y : Int32} (hd : Dc M.2.1 pc .ishr 1 pc')  (k : Gd M d mc ms pc' L (.int (x >>> (y &&& 31)) :: st) hp nc ns P) : Gd M d mc ms pc L (.int y :: .int x :: st) hp nc ns P := by
  obtain ⟨h1, rfl⟩ := hd
  exact fun l p e s m args below meth c B S D cy H locs ls C hZ hW hS hL => lv_ishr C.1 C.2.1 h1 (k l p e s m args below meth c B S D cy H locs ls C hZ hW hS hL)
theorem g_iushr {x y : Int32} (hd : Dc M.2.1 pc .iushr 1 pc')  (k : Gd M d mc ms pc' L (.int (x.toUInt32 >>> (y.toUInt32 &&& Int32.toUInt32 31)).toInt32 :: st) hp nc ns P) : Gd M d mc ms pc L (.int y :: .int x :: st) hp nc ns P := by
  obtain ⟨h1, rfl⟩ := hd
  exact fun l p e s m args below meth c B S D cy H locs ls C hZ hW hS hL => lv_iushr C.1 C.2.1 h1 rfl (k l p e s m args below meth c B S D cy H locs ls C hZ hW hS hL)
theorem g_idiv {x y : Int32} (hd : Dc M.2.1 pc .idiv 1 pc') (hne : ¬ y = 0) (k : Gd M d mc ms pc' L (.int (x / y) :: st) hp nc ns P) : Gd M d mc ms pc L (.int y :: .int x :: st) hp nc ns P := by
  obtain ⟨h1, rfl⟩ := hd
  exact fun l p e s m args below meth c B S D cy H locs ls C hZ hW hS hL => lv_idiv C.1 C.2.1 h1 hne (k l p e s m args below meth c B S D cy H locs ls C hZ hW hS hL)
theorem g_irem {x y : Int32} (hd : Dc M.2.1 pc .irem 1 pc') (hne : ¬ y = 0) (k : Gd M d mc ms pc' L (.int (x - x / y * y) :: st) hp nc ns P) : Gd M d mc ms pc L (.int y :: .int x :: st) hp nc ns P := by
  obtain ⟨h1, rfl⟩ := hd
  exact fun l p e s m args below meth c B S D cy H locs ls C hZ hW hS hL => lv_irem C.1 C.2.1 h1 hne (k l p e s m args below meth c B S D cy H locs ls C hZ hW hS hL)
theorem g_ldiv {x y : Int64} (hd : Dc M.2.1 pc .ldiv 1 pc') (hne : ¬ y = 0) (k : Gd M d mc ms pc' L (.long (x / y) :: st) hp nc ns P) : Gd M d mc ms pc L (.long y :: .long x :: st) hp nc ns P := by
  obtain ⟨h1, rfl⟩ := hd
  exact fun l p e s m args below meth c B S D cy H locs ls C hZ hW hS hL => lv_ldiv C.1 C.2.1 h1 hne (k l p e s m args below meth c B S D cy H locs ls C hZ hW hS hL)
theorem g_lrem {x y : Int64} (hd : Dc M.2.1 pc .lrem 1 pc') (hne : ¬ y = 0) (k : Gd M d mc ms pc' L (.long (x - x / y * y) :: st) hp nc ns P) : Gd M d mc ms pc L (.long y :: .long x :: st) hp nc ns P := by
  obtain ⟨h1, rfl⟩ := hd
  exact fun l p e s m args below meth c B S D cy H locs ls C hZ hW hS hL => lv_lrem C.1 C.2.1 h1 hne (k l p e s m args below meth c B S D cy H locs ls C hZ hW hS hL)
theorem g_ladd {x y : Int64} (hd : Dc M.2.1 pc .ladd 1 pc')  (k : Gd M d mc ms pc' L (.long (x + y) :: st) hp nc ns P) : Gd M d mc ms pc L (.long y :: .long x :: st) hp nc ns P := by
  obtain ⟨h1, rfl⟩ := hd
  exact fun l p e s m args below meth c B S D cy H locs ls C hZ hW hS hL => lv_ladd C.1 C.2.1 h1 (k l p e s m args below meth c B S D cy H locs ls C hZ hW hS hL)
theorem g_lsub {x y : Int64} (hd : Dc M.2.1 pc .lsub 1 pc')  (k : Gd M d mc ms pc' L (.long (x - y) :: st) hp nc ns P) : Gd M d mc ms pc L (.long y :: .long x :: st) hp nc ns P := by
  obtain ⟨h1, rfl⟩ := hd
  exact fun l p e s m args below meth c B S D cy H locs ls C hZ hW hS hL => lv_lsub C.1 C.2.1 h1 (k l p e s m args below meth c B S D cy H locs ls C hZ hW hS hL)
theorem g_lmul {x y : Int64} (hd : Dc M.2.1 pc .lmul 1 pc')  (k : Gd M d mc ms pc' L (.long (x * y) :: st) hp nc ns P) : Gd M d mc ms pc L (.long y :: .long x :: st) hp nc ns P := by
  obtain ⟨h1, rfl⟩ := hd
  exact fun l p e s m args below meth c B S D cy H locs ls C hZ hW hS hL => lv_lmul C.1 C.2.1 h1 (k l p e s m args below meth c B S D cy H locs ls C hZ hW hS hL)
theorem g_lcmp {x y : Int64} (hd : Dc M.2.1 pc .lcmp 1 pc')  (k : Gd M d mc ms pc' L (.int (lg_cmp x y) :: st) hp nc ns P) : Gd M d mc ms pc L (.long y :: .long x :: st) hp nc ns P := by
  obtain ⟨h1, rfl⟩ := hd
  exact fun l p e s m args below meth c B S D cy H locs ls C hZ hW hS hL => W.lcmp C.1 C.2.1 h1 (k l p e s m args below meth c B S D cy H locs ls C hZ hW hS hL)
theorem g_ineg {x : Int32} (hd : Dc M.2.1 pc .ineg 1 pc')  (k : Gd M d mc ms pc' L (.int (-x) :: st) hp nc ns P) : Gd M d mc ms pc L (.int x :: st) hp nc ns P := by
  obtain ⟨h1, rfl⟩ := hd
  exact fun l p e s m args below meth c B S D cy H locs ls C hZ hW hS hL => lv_ineg C.1 C.2.1 h1 (k l p e s m args below meth c B S D cy H locs ls C hZ hW hS hL)
theorem g_i2l {x : Int32} (hd : Dc M.2.1 pc .i2l 1 pc')  (k : Gd M d mc ms pc' L (.long x.toInt64 :: st) hp nc ns P) : Gd M d mc ms pc L (.int x :: st) hp nc ns P := by
  obtain ⟨h1, rfl⟩ := hd
  exact fun l p e s m args below meth c B S D cy H locs ls C hZ hW hS hL => lv_i2l C.1 C.2.1 h1 rfl (k l p e s m args below meth c B S D cy H locs ls C hZ hW hS hL)
theorem g_l2i {x : Int64} (hd : Dc M.2.1 pc .l2i 1 pc')  (k : Gd M d mc ms pc' L (.int x.toInt32 :: st) hp nc ns P) : Gd M d mc ms pc L (.long x :: st) hp nc ns P := by
  obtain ⟨h1, rfl⟩ := hd
  exact fun l p e s m args below meth c B S D cy H locs ls C hZ hW hS hL => lv_l2i C.1 C.2.1 h1 rfl (k l p e s m args below meth c B S D cy H locs ls C hZ hW hS hL)
theorem g_i2b {x : Int32} (hd : Dc M.2.1 pc .i2b 1 pc')  (k : Gd M d mc ms pc' L (.int x.toInt8.toInt32 :: st) hp nc ns P) : Gd M d mc ms pc L (.int x :: st) hp nc ns P := by
  obtain ⟨h1, rfl⟩ := hd
  exact fun l p e s m args below meth c B S D cy H locs ls C hZ hW hS hL => lv_i2b C.1 C.2.1 h1 rfl (k l p e s m args below meth c B S D cy H locs ls C hZ hW hS hL)
theorem g_i2s {x : Int32} (hd : Dc M.2.1 pc .i2s 1 pc')  (k : Gd M d mc ms pc' L (.int x.toInt16.toInt32 :: st) hp nc ns P) : Gd M d mc ms pc L (.int x :: st) hp nc ns P := by
  obtain ⟨h1, rfl⟩ := hd
  exact fun l p e s m args below meth c B S D cy H locs ls C hZ hW hS hL => lv_i2s C.1 C.2.1 h1 rfl (k l p e s m args below meth c B S D cy H locs ls C hZ hW hS hL)
theorem g_iconst {n : Int} {v : Int32} (hd : Dc M.2.1 pc (.iconst n) 1 pc') (hv : Int32.ofInt n = v) (k : Gd M d mc ms pc' L (.int v :: st) hp nc ns P) : Gd M d mc ms pc L st hp nc ns P := by
  obtain ⟨h1, rfl⟩ := hd
  exact fun l p e s m args below meth c B S D cy H locs ls C hZ hW hS hL => lv_iconst C.1 C.2.1 h1 hv (k l p e s m args below meth c B S D cy H locs ls C hZ hW hS hL)
theorem g_bipush {n : Int} {v : Int32} (hd : Dc M.2.1 pc (.bipush n) 2 pc') (hv : (Int8.ofInt n).toInt32 = v) (k : Gd M d mc ms pc' L (.int v :: st) hp nc ns P) : Gd M d mc ms pc L st hp nc ns P := by
  obtain ⟨h1, rfl⟩ := hd
  exact fun l p e s m args below meth c B S D cy H locs ls C hZ hW hS hL => lv_bipush C.1 C.2.1 h1 hv (k l p e s m args below meth c B S D cy H locs ls C hZ hW hS hL)
theorem g_sipush {n : Int} {v : Int32} (hd : Dc M.2.1 pc (.sipush n) 3 pc') (hv : (Int16.ofInt n).toInt32 = v) (k : Gd M d mc ms pc' L (.int v :: st) hp nc ns P) : Gd M d mc ms pc L st hp nc ns P := by
  obtain ⟨h1, rfl⟩ := hd
  exact fun l p e s m args below meth c B S D cy H locs ls C hZ hW hS hL => lv_sipush C.1 C.2.1 h1 hv (k l p e s m args below meth c B S D cy H locs ls C hZ hW hS hL)
theorem g_lconst {n : Fin 2} {v : Int64} (hd : Dc M.2.1 pc (.lconst n) 1 pc') (hv : Int64.ofNat (n : Nat) = v) (k : Gd M d mc ms pc' L (.long v :: st) hp nc ns P) : Gd M d mc ms pc L st hp nc ns P := by
  obtain ⟨h1, rfl⟩ := hd
  exact fun l p e s m args below meth c B S D cy H locs ls C hZ hW hS hL => lv_lconst C.1 C.2.1 h1 hv (k l p e s m args below meth c B S D cy H locs ls C hZ hW hS hL)
theorem g_iload_n {i : Fin 4} {x : Int32} (hd : Dc M.2.1 pc (.iload_n i) 1 pc') (hl : L[(i : Nat)]? = some (some (.int x))) (k : Gd M d mc ms pc' L (.int x :: st) hp nc ns P) : Gd M d mc ms pc L st hp nc ns P := by
  obtain ⟨h1, rfl⟩ := hd
  exact fun l p e s m args below meth c B S D cy H locs ls C hZ hW hS hL => lv_iload_n C.1 C.2.1 h1 rfl (hL.2.2.2 _ _ hl) (k l p e s m args below meth c B S D cy H locs ls C hZ hW hS hL)
theorem g_iload {i : Nat} {x : Int32} (hd : Dc M.2.1 pc (.iload i) 2 pc') (hl : L[i]? = some (some (.int x))) (k : Gd M d mc ms pc' L (.int x :: st) hp nc ns P) : Gd M d mc ms pc L st hp nc ns P := by
  obtain ⟨h1, rfl⟩ := hd
  exact fun l p e s m args below meth c B S D cy H locs ls C hZ hW hS hL => lv_iload C.1 C.2.1 h1 (hL.2.2.2 _ _ hl) (k l p e s m args below meth c B S D cy H locs ls C hZ hW hS hL)
theorem g_lload_n {i : Fin 4} {x : Int64} (hd : Dc M.2.1 pc (.lload_n i) 1 pc') (hl : L[(i : Nat)]? = some (some (.long x))) (k : Gd M d mc ms pc' L (.long x :: st) hp nc ns P) : Gd M d mc ms pc L st hp nc ns P := by
  obtain ⟨h1, rfl⟩ := hd
  exact fun l p e s m args below meth c B S D cy H locs ls C hZ hW hS hL => lv_lload_n C.1 C.2.1 h1 rfl (hL.2.2.2 _ _ hl) (k l p e s m args below meth c B S D cy H locs ls C hZ hW hS hL)
theorem g_lload {i : Nat} {x : Int64} (hd : Dc M.2.1 pc (.lload i) 2 pc') (hl : L[i]? = some (some (.long x))) (k : Gd M d mc ms pc' L (.long x :: st) hp nc ns P) : Gd M d mc ms pc L st hp nc ns P := by
  obtain ⟨h1, rfl⟩ := hd
  exact fun l p e s m args below meth c B S D cy H locs ls C hZ hW hS hL => lv_lload C.1 C.2.1 h1 (hL.2.2.2 _ _ hl) (k l p e s m args below meth c B S D cy H locs ls C hZ hW hS hL)
theorem g_aload_n {i : Fin 4} {x : Nat} (hd : Dc M.2.1 pc (.aload_n i) 1 pc') (hl : L[(i : Nat)]? = some (some (.ref x))) (k : Gd M d mc ms pc' L (.ref x :: st) hp nc ns P) : Gd M d mc ms pc L st hp nc ns P := by
  obtain ⟨h1, rfl⟩ := hd
  exact fun l p e s m args below meth c B S D cy H locs ls C hZ hW hS hL => lv_aload_n C.1 C.2.1 h1 rfl (hL.2.2.2 _ _ hl) (k l p e s m args below meth c B S D cy H locs ls C hZ hW hS hL)
theorem g_aload {i : Nat} {x : Nat} (hd : Dc M.2.1 pc (.aload i) 2 pc') (hl : L[i]? = some (some (.ref x))) (k : Gd M d mc ms pc' L (.ref x :: st) hp nc ns P) : Gd M d mc ms pc L st hp nc ns P := by
  obtain ⟨h1, rfl⟩ := hd
  exact fun l p e s m args below meth c B S D cy H locs ls C hZ hW hS hL => lv_aload C.1 C.2.1 h1 (hL.2.2.2 _ _ hl) (k l p e s m args below meth c B S D cy H locs ls C hZ hW hS hL)
theorem g_dup {v : Value} (hd : Dc M.2.1 pc .dup 1 pc') (hc : v.category = 1) (k : Gd M d mc ms pc' L (v :: v :: st) hp nc ns P) : Gd M d mc ms pc L (v :: st) hp nc ns P := by
  obtain ⟨h1, rfl⟩ := hd
  exact fun l p e s m args below meth c B S D cy H locs ls C hZ hW hS hL => lv_dup C.1 C.2.1 h1 ((cv_cat B S v).trans hc) (k l p e s m args below meth c B S D cy H locs ls C hZ hW hS hL)
theorem g_dup2 {v w : Value} (hd : Dc M.2.1 pc .dup2 1 pc') (hc : v.category = 1) (hc2 : w.category = 1) (k : Gd M d mc ms pc' L (v :: w :: v :: w :: st) hp nc ns P) : Gd M d mc ms pc L (v :: w :: st) hp nc ns P := by
  obtain ⟨h1, rfl⟩ := hd
  exact fun l p e s m args below meth c B S D cy H locs ls C hZ hW hS hL => lv_dup2_11 C.1 C.2.1 h1 ((cv_cat B S v).trans hc) ((cv_cat B S w).trans hc2) (k l p e s m args below meth c B S D cy H locs ls C hZ hW hS hL)
abbrev Dq (cc : ByteArray) (pc : Nat) (i : Int → Instr) (tgt pc' : Nat) : Prop := decode cc pc = .ok (i ((tgt : Int) - (pc : Int)), 3) ∧ pc + 3 = pc'
theorem tgt_ok (pc tgt : Nat) : (pc : Int) + ((tgt : Int) - (pc : Int)) = (tgt : Int) := by omega
theorem g_if_eq {x : Int32} {tgt : Nat} (hd : Dq M.2.1 pc (.ifCond .eq) tgt pc') (kt : x = 0 → Gd M d mc ms tgt L st hp nc ns P) (kf : ¬ x = 0 → Gd M d mc ms pc' L st hp nc ns P) : Gd M d mc ms pc L (.int x :: st) hp nc ns P := by
  obtain ⟨h1, rfl⟩ := hd
  exact fun l p e s m args below meth c B S D cy H locs ls C hZ hW hS hL => lv_if_eq C.1 C.2.1 h1 (tgt_ok pc tgt) (fun q => kt q l p e s m args below meth c B S D cy H locs ls C hZ hW hS hL) (fun q => kf q l p e s m args below meth c B S D cy H locs ls C hZ hW hS hL)
theorem g_icmp_eq {x y : Int32} {tgt : Nat} (hd : Dq M.2.1 pc (.if_icmp .eq) tgt pc') (kt : x = y → Gd M d mc ms tgt L st hp nc ns P) (kf : ¬ x = y → Gd M d mc ms pc' L st hp nc ns P) : Gd M d mc ms pc L (.int y :: .int x :: st) hp nc ns P := by
  obtain ⟨h1, rfl⟩ := hd
  exact fun l p e s m args below meth c B S D cy H locs ls C hZ hW hS hL => lv_icmp_eq C.1 C.2.1 h1 (tgt_ok pc tgt) (fun q => kt q l p e s m args below meth c B S D cy H locs ls C hZ hW hS hL) (fun q => kf q l p e s m args below meth c B S D cy H locs ls C hZ hW hS hL)
theorem g_if_ne {x : Int32} {tgt : Nat} (hd : Dq M.2.1 pc (.ifCond .ne) tgt pc') (kt : ¬ x = 0 → Gd M d mc ms tgt L st hp nc ns P) (kf : x = 0 → Gd M d mc ms pc' L st hp nc ns P) : Gd M d mc ms pc L (.int x :: st) hp nc ns P := by
  obtain ⟨h1, rfl⟩ := hd
  exact fun l p e s m args below meth c B S D cy H locs ls C hZ hW hS hL => lv_if_ne C.1 C.2.1 h1 (tgt_ok pc tgt) (fun q => kt q l p e s m args below meth c B S D cy H locs ls C hZ hW hS hL) (fun q => kf q l p e s m args below meth c B S D cy H locs ls C hZ hW hS hL)
theorem g_icmp_ne {x y : Int32} {tgt : Nat} (hd : Dq M.2.1 pc (.if_icmp .ne) tgt pc') (kt : ¬ x = y → Gd M d mc ms tgt L st hp nc ns P) (kf : x = y → Gd M d mc ms pc' L st hp nc ns P) : Gd M d mc ms pc L (.int y :: .int x :: st) hp nc ns P := by
  obtain ⟨h1, rfl⟩ := hd
  exact fun l p e s m args below meth c B S D cy H locs ls C hZ hW hS hL => lv_icmp_ne C.1 C.2.1 h1 (tgt_ok pc tgt) (fun q => kt q l p e s m args below meth c B S D cy H locs ls C hZ hW hS hL) (fun q => kf q l p e s m args below meth c B S D cy H locs ls C hZ hW hS hL)
theorem g_if_lt {x : Int32} {tgt : Nat} (hd : Dq M.2.1 pc (.ifCond .lt) tgt pc') (kt : x < 0 → Gd M d mc ms tgt L st hp nc ns P) (kf : ¬ x < 0 → Gd M d mc ms pc' L st hp nc ns P) : Gd M d mc ms pc L (.int x :: st) hp nc ns P := by
  obtain ⟨h1, rfl⟩ := hd
  exact fun l p e s m args below meth c B S D cy H locs ls C hZ hW hS hL => lv_if_lt C.1 C.2.1 h1 (tgt_ok pc tgt) (fun q => kt q l p e s m args below meth c B S D cy H locs ls C hZ hW hS hL) (fun q => kf q l p e s m args below meth c B S D cy H locs ls C hZ hW hS hL)
theorem g_icmp_lt {x y : Int32} {tgt : Nat} (hd : Dq M.2.1 pc (.if_icmp .lt) tgt pc') (kt : x < y → Gd M d mc ms tgt L st hp nc ns P) (kf : ¬ x < y → Gd M d mc ms pc' L st hp nc ns P) : Gd M d mc ms pc L (.int y :: .int x :: st) hp nc ns P := by
  obtain ⟨h1, rfl⟩ := hd
  exact fun l p e s m args below meth c B S D cy H locs ls C hZ hW hS hL => lv_icmp_lt C.1 C.2.1 h1 (tgt_ok pc tgt) (fun q => kt q l p e s m args below meth c B S D cy H locs ls C hZ hW hS hL) (fun q => kf q l p e s m args below meth c B S D cy H locs ls C hZ hW hS hL)
theorem g_if_ge {x : Int32} {tgt : Nat} (hd : Dq M.2.1 pc (.ifCond .ge) tgt pc') (kt : 0 ≤ x → Gd M d mc ms tgt L st hp nc ns P) (kf : ¬ 0 ≤ x → Gd M d mc ms pc' L st hp nc ns P) : Gd M d mc ms pc L (.int x :: st) hp nc ns P := by
  obtain ⟨h1, rfl⟩ := hd
  exact fun l p e s m args below meth c B S D cy H locs ls C hZ hW hS hL => lv_if_ge C.1 C.2.1 h1 (tgt_ok pc tgt) (fun q => kt q l p e s m args below meth c B S D cy H locs ls C hZ hW hS hL) (fun q => kf q l p e s m args below meth c B S D cy H locs ls C hZ hW hS hL)
theorem g_icmp_ge {x y : Int32} {tgt : Nat} (hd : Dq M.2.1 pc (.if_icmp .ge) tgt pc') (kt : y ≤ x → Gd M d mc ms tgt L st hp nc ns P) (kf : ¬ y ≤ x → Gd M d mc ms pc' L st hp nc ns P) : Gd M d mc ms pc L (.int y :: .int x :: st) hp nc ns P := by
  obtain ⟨h1, rfl⟩ := hd
  exact fun l p e s m args below meth c B S D cy H locs ls C hZ hW hS hL => lv_icmp_ge C.1 C.2.1 h1 (tgt_ok pc tgt) (fun q => kt q l p e s m args below meth c B S D cy H locs ls C hZ hW hS hL) (fun q => kf q l p e s m args below meth c B S D cy H locs ls C hZ hW hS hL)
theorem g_if_gt {x : Int32} {tgt : Nat} (hd : Dq M.2.1 pc (.ifCond .gt) tgt pc') (kt : 0 < x → Gd M d mc ms tgt L st hp nc ns P) (kf : ¬ 0 < x → Gd M d mc ms pc' L st hp nc ns P) : Gd M d mc ms pc L (.int x :: st) hp nc ns P := by
  obtain ⟨h1, rfl⟩ := hd
  exact fun l p e s m args below meth c B S D cy H locs ls C hZ hW hS hL => lv_if_gt C.1 C.2.1 h1 (tgt_ok pc tgt) (fun q => kt q l p e s m args below meth c B S D cy H locs ls C hZ hW hS hL) (fun q => kf q l p e s m args below meth c B S D cy H locs ls C hZ hW hS hL)
theorem g_icmp_gt {x y : Int32} {tgt : Nat} (hd : Dq M.2.1 pc (.if_icmp .gt) tgt pc') (kt : y < x → Gd M d mc ms tgt L st hp nc ns P) (kf : ¬ y < x → Gd M d mc ms pc' L st hp nc ns P) : Gd M d mc ms pc L (.int y :: .int x :: st) hp nc ns P := by
  obtain ⟨h1, rfl⟩ := hd
  exact fun l p e s m args below meth c B S D cy H locs ls C hZ hW hS hL => lv_icmp_gt C.1 C.2.1 h1 (tgt_ok pc tgt) (fun q => kt q l p e s m args below meth c B S D cy H locs ls C hZ hW hS hL) (fun q => kf q l p e s m args below meth c B S D cy H locs ls C hZ hW hS hL)
theorem g_if_le {x : Int32} {tgt : Nat} (hd : Dq M.2.1 pc (.ifCond .le) tgt pc') (kt : x ≤ 0 → Gd M d mc ms tgt L st hp nc ns P) (kf : ¬ x ≤ 0 → Gd M d mc ms pc' L st hp nc ns P) : Gd M d mc ms pc L (.int x :: st) hp nc ns P := by
  obtain ⟨h1, rfl⟩ := hd
  exact fun l p e s m args below meth c B S D cy H locs ls C hZ hW hS hL => lv_if_le C.1 C.2.1 h1 (tgt_ok pc tgt) (fun q => kt q l p e s m args below meth c B S D cy H locs ls C hZ hW hS hL) (fun q => kf q l p e s m args below meth c B S D cy H locs ls C hZ hW hS hL)
theorem g_icmp_le {x y : Int32} {tgt : Nat} (hd : Dq M.2.1 pc (.if_icmp .le) tgt pc') (kt : x ≤ y → Gd M d mc ms tgt L st hp nc ns P) (kf : ¬ x ≤ y → Gd M d mc ms pc' L st hp nc ns P) : Gd M d mc ms pc L (.int y :: .int x :: st) hp nc ns P := by
  obtain ⟨h1, rfl⟩ := hd
  exact fun l p e s m args below meth c B S D cy H locs ls C hZ hW hS hL => lv_icmp_le C.1 C.2.1 h1 (tgt_ok pc tgt) (fun q => kt q l p e s m args below meth c B S D cy H locs ls C hZ hW hS hL) (fun q => kf q l p e s m args below meth c B S D cy H locs ls C hZ hW hS hL)
theorem g_goto {tgt : Nat} (hd : Dq M.2.1 pc .goto tgt pc') (k : Gd M d mc ms tgt L st hp nc ns P) : Gd M d mc ms pc L st hp nc ns P := by
  obtain ⟨h1, -⟩ := hd
  exact fun l p e s m args below meth c B S D cy H locs ls C hZ hW hS hL => lv_goto C.1 C.2.1 h1 (tgt_ok pc tgt) (k l p e s m args below meth c B S D cy H locs ls C hZ hW hS hL)
theorem g_tableIn {dflt lo hi off : Int} {offs : Array Int} {len tgt : Nat} {x : Int32} (hd : decode M.2.1 pc = .ok (.tableswitch dflt lo hi offs, len)) (h1 : ¬ x.toInt < lo) (h2 : ¬ hi < x.toInt) (ho : offs[(x.toInt - lo).toNat]? = some off) (ht : (pc : Int) + off = (tgt : Int)) (k : Gd M d mc ms tgt L st hp nc ns P) : Gd M d mc ms pc L (.int x :: st) hp nc ns P :=
  fun l p e s m args below meth c B S D cy H locs ls C hZ hW hS hL => lv_tableIn C.1 C.2.1 hd h1 h2 ho ht (k l p e s m args below meth c B S D cy H locs ls C hZ hW hS hL)
theorem g_tableOut {dflt lo hi : Int} {offs : Array Int} {len tgt : Nat} {x : Int32} (hd : decode M.2.1 pc = .ok (.tableswitch dflt lo hi offs, len)) (h : x.toInt < lo ∨ hi < x.toInt) (ht : (pc : Int) + dflt = (tgt : Int)) (k : Gd M d mc ms tgt L st hp nc ns P) : Gd M d mc ms pc L (.int x :: st) hp nc ns P :=
  fun l p e s m args below meth c B S D cy H locs ls C hZ hW hS hL => lv_tableOut C.1 C.2.1 hd h ht (k l p e s m args below meth c B S D cy H locs ls C hZ hW hS hL)
theorem g_lookup {dflt off : Int} {ps : Array (Int × Int)} {len tgt : Nat} {x : Int32} (hd : decode M.2.1 pc = .ok (.lookupswitch dflt ps, len)) (hp0 : (ps.toList.zip (ps.toList.drop 1)).all (fun (a, next) => a.1 < next.1) = true) (ho : Op.lookupswitch.offset ps.toList dflt x.toInt = off) (ht : (pc : Int) + off = (tgt : Int)) (k : Gd M d mc ms tgt L st hp nc ns P) : Gd M d mc ms pc L (.int x :: st) hp nc ns P :=
  fun l p e s m args below meth c B S D cy H locs ls C hZ hW hS hL => lv_lookup C.1 C.2.1 hd hp0 ho ht (k l p e s m args below meth c B S D cy H locs ls C hZ hW hS hL)
theorem g_ldc {i : Nat} {v : Int32} (hd : Dc M.2.1 pc (.ldc i) 2 pc') (hc : Cond.constant M.1.cls i v ∈ TT) (k : Gd M d mc ms pc' L (.int v :: st) hp nc ns P) : Gd M d mc ms pc L st hp nc ns P := by
  obtain ⟨h1, rfl⟩ := hd
  exact fun l p e s m args below meth c B S D cy H locs ls C hZ hW hS hL => lv_ldc C.1 C.2.1 C.2.2.2.2.1 (C.2.2.2.2.2.1 _ hc) h1 (k l p e s m args below meth c B S D cy H locs ls C hZ hW hS hL)
theorem g_ldcw {i : Nat} {v : Int32} (hd : Dc M.2.1 pc (.ldc_w i) 3 pc') (hc : Cond.constant M.1.cls i v ∈ TT) (k : Gd M d mc ms pc' L (.int v :: st) hp nc ns P) : Gd M d mc ms pc L st hp nc ns P := by
  obtain ⟨h1, rfl⟩ := hd
  exact fun l p e s m args below meth c B S D cy H locs ls C hZ hW hS hL => lv_ldcw C.1 C.2.1 C.2.2.2.2.1 (C.2.2.2.2.2.1 _ hc) h1 (k l p e s m args below meth c B S D cy H locs ls C hZ hW hS hL)
theorem g_ldc2 {i : Nat} {v : Int64} (hd : Dc M.2.1 pc (.ldc2_w i) 3 pc') (hc : Cond.constantLong M.1.cls i v ∈ TT) (k : Gd M d mc ms pc' L (.long v :: st) hp nc ns P) : Gd M d mc ms pc L st hp nc ns P := by
  obtain ⟨h1, rfl⟩ := hd
  exact fun l p e s m args below meth c B S D cy H locs ls C hZ hW hS hL => lv_ldc2 C.1 C.2.1 C.2.2.2.2.1 (C.2.2.2.2.2.1 _ hc) h1 (k l p e s m args below meth c B S D cy H locs ls C hZ hW hS hL)
/-- no long lies just below a place -/
def nlong (L : List (Option Value)) (i : Nat) : Bool := match i with
  | 0 => true
  | i + 1 => match L[i]? with
    | some (some v) => v.category != 2
    | _ => true
def prL (B : Nat) (S : Nat → Nat) (L : List (Option Value)) : List (Nat × Value) := (List.range L.length).filterMap (fun i => match L[i]? with
  | some (some v) => some (i, cv B S v)
  | _ => none)
theorem prL_in {B : Nat} {S : Nat → Nat} {L : List (Option Value)} {i : Nat} {v : Value} (h : L[i]? = some (some v)) : (i, cv B S v) ∈ prL B S L := by
  refine List.mem_filterMap.mpr ⟨i, List.mem_range.mpr (List.getElem?_eq_some_iff.mp h).1, ?_⟩
  rw [h]
theorem prL_has {M : Meth} {B : Nat} {S : Nat → Nat} {ls : Array Slot} {L : List (Option Value)} (h : Lh M B S ls L) : lv_has ls M.2.2.1 (prL B S L) := by
  refine ⟨h.1, h.2.2.1, fun q hq => ?_⟩
  obtain ⟨i, -, hi⟩ := List.mem_filterMap.mp hq
  cases hL : L[i]? with
  | none => rw [hL] at hi; cases hi
  | some o =>
    cases o with
    | none => rw [hL] at hi; cases hi
    | some v =>
      rw [hL] at hi
      cases hi
      exact h.2.2.2 i v hL
theorem lh_set1 {M : Meth} {B : Nat} {S : Nat → Nat} {ls : Array Slot} {L : List (Option Value)} {i : Nat} {v : Value} (hl : L.length = M.2.2.1) (hn : nlong L i = true) (h : lv_has ls M.2.2.1 ((i, cv B S v) :: (prL B S L).filter (fun q => !(q.1 == i) && !(q.1 + 1 == i && q.2.category == 2)))) : Lh M B S ls (L.set i (some v)) := by
  refine ⟨h.1, by rw [List.length_set]; exact hl, h.2.1, fun j w hj => ?_⟩
  by_cases hij : i = j
  · subst hij
    have hlt : i < L.length := by
      have := (List.getElem?_eq_some_iff.mp hj).1
      rw [List.length_set] at this
      exact this
    rw [List.getElem?_set_self hlt] at hj
    cases hj
    exact h.2.2 (i, cv B S v) List.mem_cons_self
  · rw [List.getElem?_set_ne hij] at hj
    refine h.2.2 (j, cv B S w) (List.mem_cons_of_mem _ (List.mem_filter.mpr ⟨prL_in hj, ?_⟩))
    have e1 : (j == i) = false := by simp; omega
    have e2 : (j + 1 == i && (cv B S w).category == 2) = false := by
      rw [cv_cat]
      by_cases hj1 : j + 1 = i
      · subst hj1
        simp only [nlong, hj] at hn
        simpa using hn
      · have : (j + 1 == i) = false := by simpa using hj1
        rw [this]
        rfl
    show (!(j == i) && !(j + 1 == i && (cv B S w).category == 2)) = true
    rw [e1, e2]
    rfl
theorem lh_set2 {M : Meth} {B : Nat} {S : Nat → Nat} {ls : Array Slot} {L : List (Option Value)} {i : Nat} {v : Value} (hl : L.length = M.2.2.1) (hn : nlong L i = true) (hi : i + 1 < M.2.2.1) (h : lv_has ls M.2.2.1 ((i, cv B S v) :: (prL B S L).filter (fun q => !(q.1 == i) && (!(q.1 == i + 1) && !(q.1 + 1 == i && q.2.category == 2))))) : Lh M B S ls ((L.set i (some v)).set (i + 1) none) := by
  refine ⟨h.1, by rw [List.length_set, List.length_set]; exact hl, h.2.1, fun j w hj => ?_⟩
  by_cases h2 : i + 1 = j
  · subst h2
    rw [List.getElem?_set_self (by rw [List.length_set, hl]; exact hi)] at hj
    cases hj
  · rw [List.getElem?_set_ne h2] at hj
    by_cases hij : i = j
    · subst hij
      rw [List.getElem?_set_self (by omega)] at hj
      cases hj
      exact h.2.2 (i, cv B S v) List.mem_cons_self
    · rw [List.getElem?_set_ne hij] at hj
      refine h.2.2 (j, cv B S w) (List.mem_cons_of_mem _ (List.mem_filter.mpr ⟨prL_in hj, ?_⟩))
      have e1 : (j == i) = false := by simp; omega
      have e3 : (j == i + 1) = false := by simp; omega
      have e2 : (j + 1 == i && (cv B S w).category == 2) = false := by
        rw [cv_cat]
        by_cases hj1 : j + 1 = i
        · subst hj1
          simp only [nlong, hj] at hn
          simpa using hn
        · have : (j + 1 == i) = false := by simpa using hj1
          rw [this]
          rfl
      show (!(j == i) && (!(j == i + 1) && !(j + 1 == i && (cv B S w).category == 2))) = true
      rw [e1, e2, e3]
      rfl
theorem Nat.lt_of_ble_eq_true' {a b : Nat} (h : Nat.ble (a + 1) b = true) : a < b := Nat.le_of_ble_eq_true h
theorem g_istore_n {i : Fin 4} {x : Int32} (hd : Dc M.2.1 pc (.istore_n i) 1 pc') (hi : Nat.ble ((i : Nat) + 1) M.2.2.1 = true) (hn : nlong L i = true) (k : Gd M d mc ms pc' (L.set i (some (.int x))) st hp nc ns P) : Gd M d mc ms pc L (.int x :: st) hp nc ns P := by
  obtain ⟨h1, rfl⟩ := hd
  exact fun l p e s m args below meth c B S D cy H locs ls C hZ hW hS hL => lv_istore_n C.1 C.2.1 h1 rfl (prL_has hL) (Nat.lt_of_ble_eq_true' hi) rfl (fun ls' h' => k l p e s m args below meth c B S D cy H locs ls' C hZ hW hS (lh_set1 hL.2.1 hn h'))
theorem g_istore {i : Nat} {x : Int32} (hd : Dc M.2.1 pc (.istore i) 2 pc') (hi : Nat.ble (i + 1) M.2.2.1 = true) (hn : nlong L i = true) (k : Gd M d mc ms pc' (L.set i (some (.int x))) st hp nc ns P) : Gd M d mc ms pc L (.int x :: st) hp nc ns P := by
  obtain ⟨h1, rfl⟩ := hd
  exact fun l p e s m args below meth c B S D cy H locs ls C hZ hW hS hL => lv_istore C.1 C.2.1 h1 (prL_has hL) (Nat.lt_of_ble_eq_true' hi) rfl (fun ls' h' => k l p e s m args below meth c B S D cy H locs ls' C hZ hW hS (lh_set1 hL.2.1 hn h'))
theorem g_astore_n {i : Fin 4} {x : Nat} (hd : Dc M.2.1 pc (.astore_n i) 1 pc') (hi : Nat.ble ((i : Nat) + 1) M.2.2.1 = true) (hn : nlong L i = true) (k : Gd M d mc ms pc' (L.set i (some (.ref x))) st hp nc ns P) : Gd M d mc ms pc L (.ref x :: st) hp nc ns P := by
  obtain ⟨h1, rfl⟩ := hd
  exact fun l p e s m args below meth c B S D cy H locs ls C hZ hW hS hL => lv_astore_n C.1 C.2.1 h1 rfl (prL_has hL) (Nat.lt_of_ble_eq_true' hi) rfl (fun ls' h' => k l p e s m args below meth c B S D cy H locs ls' C hZ hW hS (lh_set1 hL.2.1 hn h'))
theorem g_astore {i : Nat} {x : Nat} (hd : Dc M.2.1 pc (.astore i) 2 pc') (hi : Nat.ble (i + 1) M.2.2.1 = true) (hn : nlong L i = true) (k : Gd M d mc ms pc' (L.set i (some (.ref x))) st hp nc ns P) : Gd M d mc ms pc L (.ref x :: st) hp nc ns P := by
  obtain ⟨h1, rfl⟩ := hd
  exact fun l p e s m args below meth c B S D cy H locs ls C hZ hW hS hL => lv_astore C.1 C.2.1 h1 (prL_has hL) (Nat.lt_of_ble_eq_true' hi) rfl (fun ls' h' => k l p e s m args below meth c B S D cy H locs ls' C hZ hW hS (lh_set1 hL.2.1 hn h'))
theorem g_lstore_n {i : Fin 4} {x : Int64} (hd : Dc M.2.1 pc (.lstore_n i) 1 pc') (hi : Nat.ble ((i : Nat) + 1 + 1) M.2.2.1 = true) (hn : nlong L i = true) (k : Gd M d mc ms pc' ((L.set i (some (.long x))).set (i + 1) none) st hp nc ns P) : Gd M d mc ms pc L (.long x :: st) hp nc ns P := by
  obtain ⟨h1, rfl⟩ := hd
  exact fun l p e s m args below meth c B S D cy H locs ls C hZ hW hS hL => lv_lstore_n C.1 C.2.1 h1 rfl (prL_has hL) (Nat.lt_of_ble_eq_true' hi) rfl (fun ls' h' => k l p e s m args below meth c B S D cy H locs ls' C hZ hW hS (lh_set2 hL.2.1 hn (Nat.lt_of_ble_eq_true' hi) h'))
theorem g_lstore {i : Nat} {x : Int64} (hd : Dc M.2.1 pc (.lstore i) 2 pc') (hi : Nat.ble (i + 1 + 1) M.2.2.1 = true) (hn : nlong L i = true) (k : Gd M d mc ms pc' ((L.set i (some (.long x))).set (i + 1) none) st hp nc ns P) : Gd M d mc ms pc L (.long x :: st) hp nc ns P := by
  obtain ⟨h1, rfl⟩ := hd
  exact fun l p e s m args below meth c B S D cy H locs ls C hZ hW hS hL => lv_lstore C.1 C.2.1 h1 (prL_has hL) (Nat.lt_of_ble_eq_true' hi) rfl (fun ls' h' => k l p e s m args below meth c B S D cy H locs ls' C hZ hW hS (lh_set2 hL.2.1 hn (Nat.lt_of_ble_eq_true' hi) h'))
theorem g_iinc {i : Nat} {n : Int} {x v : Int32} (hd : Dc M.2.1 pc (.iinc i n) 3 pc') (hi : Nat.ble (i + 1) M.2.2.1 = true) (hn : nlong L i = true) (hl : L[i]? = some (some (.int x))) (hv : x + Int32.ofInt n = v) (k : Gd M d mc ms pc' (L.set i (some (.int v))) st hp nc ns P) : Gd M d mc ms pc L st hp nc ns P := by
  obtain ⟨h1, rfl⟩ := hd
  refine fun l p e s m args below meth c B S D cy H locs ls C hZ hW hS hL => ?_
  obtain ⟨kk, hk⟩ := List.getElem?_of_mem (prL_in (B := B) (S := S) hl)
  exact lv_iinc C.1 C.2.1 h1 (prL_has hL) hk hv (Nat.lt_of_ble_eq_true' hi) rfl (fun ls' h' => k l p e s m args below meth c B S D cy H locs ls' C hZ hW hS (lh_set1 (v := .int v) hL.2.1 hn h'))
theorem g_iret {x : Int32} (hd : Dc M.2.1 pc .ireturn 1 pc') (hr : M.2.2.2 = some .int) (h1 : nc ≤ mc) (h2 : ns ≤ ms) (hP : P (some (.int x)) hp) : Gd M d mc ms pc L [.int x] hp nc ns P := by
  refine fun l p e s m args below meth c B S D cy H locs ls C hZ hW hS hL => ?_
  refine W.widen h1 h2 ?_
  exact W.iret C.1 C.2.1 (C.2.2.1.trans hr) (fun t ht hWm => ⟨⟨some (.int x), hp, rfl, hP, hW.1, by rw [ht]; exact hW.2.1, va_K.moved hWm.alike hW.2.2⟩, hS.F ht⟩) hS.2.2 hd.1 C.2.2.2.2.2.2.1
theorem g_zret {x : Int32} (hd : Dc M.2.1 pc .ireturn 1 pc') (hr : M.2.2.2 = some .boolean) (hx : narrow .boolean (.int x) = .int x) (h1 : nc ≤ mc) (h2 : ns ≤ ms) (hP : P (some (.int x)) hp) : Gd M d mc ms pc L [.int x] hp nc ns P := by
  refine fun l p e s m args below meth c B S D cy H locs ls C hZ hW hS hL => ?_
  refine W.widen h1 h2 ?_
  exact W.zret C.1 C.2.1 (C.2.2.1.trans hr) hx (fun t ht hWm => ⟨⟨some (.int x), hp, rfl, hP, hW.1, by rw [ht]; exact hW.2.1, va_K.moved hWm.alike hW.2.2⟩, hS.F ht⟩) hS.2.2 hd.1 C.2.2.2.2.2.2.1
theorem g_lret {x : Int64} (hd : Dc M.2.1 pc .lreturn 1 pc') (hr : M.2.2.2 = some .long) (h1 : nc ≤ mc) (h2 : ns ≤ ms) (hP : P (some (.long x)) hp) : Gd M d mc ms pc L [.long x] hp nc ns P := by
  refine fun l p e s m args below meth c B S D cy H locs ls C hZ hW hS hL => ?_
  refine W.widen h1 h2 ?_
  exact W.lret C.1 C.2.1 (C.2.2.1.trans hr) (fun t ht hWm => ⟨⟨some (.long x), hp, rfl, hP, hW.1, by rw [ht]; exact hW.2.1, va_K.moved hWm.alike hW.2.2⟩, hS.F ht⟩) hS.2.2 hd.1 C.2.2.2.2.2.2.1
theorem g_aret {x : Nat} {rt : FieldType} (hd : Dc M.2.1 pc .areturn 1 pc') (hr : M.2.2.2 = some rt) (hrt : (∃ n, rt = .object n) ∨ ∃ t, rt = .array t) (h1 : nc ≤ mc) (h2 : ns ≤ ms) (hP : P (some (.ref x)) hp) : Gd M d mc ms pc L [.ref x] hp nc ns P := by
  refine fun l p e s m args below meth c B S D cy H locs ls C hZ hW hS hL => ?_
  refine W.widen h1 h2 ?_
  exact W.aret C.1 C.2.1 (C.2.2.1.trans hr) hrt (Or.inr ⟨_, rfl⟩) (fun t ht hWm => ⟨⟨some (.ref x), hp, rfl, hP, hW.1, by rw [ht]; exact hW.2.1, va_K.moved hWm.alike hW.2.2⟩, hS.F ht⟩) hS.2.2 hd.1 C.2.2.2.2.2.2.1
theorem g_vret (hd : Dc M.2.1 pc .return_ 1 pc') (hr : M.2.2.2 = none) (h1 : nc ≤ mc) (h2 : ns ≤ ms) (hP : P none hp) : Gd M d mc ms pc L [] hp nc ns P := by
  refine fun l p e s m args below meth c B S D cy H locs ls C hZ hW hS hL => ?_
  refine W.widen h1 h2 ?_
  exact W.vret C.1 C.2.1 (C.2.2.1.trans hr) (fun t ht hWm => ⟨⟨none, hp, rfl, hP, hW.1, by rw [ht]; exact hW.2.1, va_K.moved hWm.alike hW.2.2⟩, hS.F ht⟩) hS.2.2 hd.1 C.2.2.2.2.2.2.1
end Rules

/-! THE LAW: its judgement, the script known -/
def Kx (n : Nat) (xs : Nat → Int32) (s : State) (B : Nat) (S : Nat → Nat) : Prop := va_X (S 3) n xs s s.heap ∧ S 3 < s.heap.size ∧ ¬ B ≤ S 3
def Gx (n : Nat) (xs : Nat → Int32) (M : Meth) (d mc ms pc : Nat) (L : List (Option Value)) (st : List Value) (hp : Hp) (nc ns : Nat) (P : Option Value → Hp → Prop) : Prop :=
  ∀ (l : Launch) (p : Program) (e : Env) (s : State) (m : MethodId) (args : Array Value) (below : List Frame) (meth : Method) (c : Code) (B : Nat) (S : Nat → Nat) (D : va_G) (cy : Nat → ClassId) (H : Heap) (locs : List Loc) (ls : Array Slot),
    Cx M p s m args meth c B S → Kx n xs s B S → s.heap.size + nc = B + hp.length → Wd B S D cy hp s H → va_S (fun q => B ≤ q) s.heap H locs → Lh M B S ls L →
    W p l e (Rm d mc ms) s m args below meth c H locs nc ns (MQ below (Qm B S D cy P) args s mc ms (fun q => B ≤ q)) (F0 m pc ls (st.map (cv B S)))
section Rules
variable {sn : Nat} {xs : Nat → Int32} {M : Meth} {d mc ms pc pc' : Nat} {L : List (Option Value)} {st : List Value} {hp : Hp} {nc ns : Nat} {P : Option Value → Hp → Prop}
theorem x_aload_n {i : Fin 4} {x : Nat} (hd : Dc M.2.1 pc (.aload_n i) 1 pc') (hl : L[(i : Nat)]? = some (some (.ref x))) (k : Gx sn xs M d mc ms pc' L (.ref x :: st) hp nc ns P) : Gx sn xs M d mc ms pc L st hp nc ns P := by
  obtain ⟨h1, rfl⟩ := hd
  exact fun l p e s m args below meth c B S D cy H locs ls C hK0 hZ hW hS hL => lv_aload_n C.1 C.2.1 h1 rfl (hL.2.2.2 _ _ hl) (k l p e s m args below meth c B S D cy H locs ls C hK0 hZ hW hS hL)
theorem x_iload_n {i : Fin 4} {x : Int32} (hd : Dc M.2.1 pc (.iload_n i) 1 pc') (hl : L[(i : Nat)]? = some (some (.int x))) (k : Gx sn xs M d mc ms pc' L (.int x :: st) hp nc ns P) : Gx sn xs M d mc ms pc L st hp nc ns P := by
  obtain ⟨h1, rfl⟩ := hd
  exact fun l p e s m args below meth c B S D cy H locs ls C hK0 hZ hW hS hL => lv_iload_n C.1 C.2.1 h1 rfl (hL.2.2.2 _ _ hl) (k l p e s m args below meth c B S D cy H locs ls C hK0 hZ hW hS hL)
theorem x_iconst {n : Int} {v : Int32} (hd : Dc M.2.1 pc (.iconst n) 1 pc') (hv : Int32.ofInt n = v) (k : Gx sn xs M d mc ms pc' L (.int v :: st) hp nc ns P) : Gx sn xs M d mc ms pc L st hp nc ns P := by
  obtain ⟨h1, rfl⟩ := hd
  exact fun l p e s m args below meth c B S D cy H locs ls C hK0 hZ hW hS hL => lv_iconst C.1 C.2.1 h1 hv (k l p e s m args below meth c B S D cy H locs ls C hK0 hZ hW hS hL)
theorem x_bipush {n : Int} {v : Int32} (hd : Dc M.2.1 pc (.bipush n) 2 pc') (hv : (Int8.ofInt n).toInt32 = v) (k : Gx sn xs M d mc ms pc' L (.int v :: st) hp nc ns P) : Gx sn xs M d mc ms pc L st hp nc ns P := by
  obtain ⟨h1, rfl⟩ := hd
  exact fun l p e s m args below meth c B S D cy H locs ls C hK0 hZ hW hS hL => lv_bipush C.1 C.2.1 h1 hv (k l p e s m args below meth c B S D cy H locs ls C hK0 hZ hW hS hL)
theorem x_iadd {x y : Int32} (hd : Dc M.2.1 pc .iadd 1 pc')  (k : Gx sn xs M d mc ms pc' L (.int (x + y) :: st) hp nc ns P) : Gx sn xs M d mc ms pc L (.int y :: .int x :: st) hp nc ns P := by
  obtain ⟨h1, rfl⟩ := hd
  exact fun l p e s m args below meth c B S D cy H locs ls C hK0 hZ hW hS hL => lv_iadd C.1 C.2.1 h1 (k l p e s m args below meth c B S D cy H locs ls C hK0 hZ hW hS hL)
theorem x_isub {x y : Int32} (hd : Dc M.2.1 pc .isub 1 pc')  (k : Gx sn xs M d mc ms pc' L (.int (x - y) :: st) hp nc ns P) : Gx sn xs M d mc ms pc L (.int y :: .int x :: st) hp nc ns P := by
  obtain ⟨h1, rfl⟩ := hd
  exact fun l p e s m args below meth c B S D cy H locs ls C hK0 hZ hW hS hL => lv_isub C.1 C.2.1 h1 (k l p e s m args below meth c B S D cy H locs ls C hK0 hZ hW hS hL)
theorem x_iand {x y : Int32} (hd : Dc M.2.1 pc .iand 1 pc')  (k : Gx sn xs M d mc ms pc' L (.int (x &&& y) :: st) hp nc ns P) : Gx sn xs M d mc ms pc L (.int y :: .int x :: st) hp nc ns P := by
  obtain ⟨h1, rfl⟩ := hd
  exact fun l p e s m args below meth c B S D cy H locs ls C hK0 hZ hW hS hL => lv_iand C.1 C.2.1 h1 (k l p e s m args below meth c B S D cy H locs ls C hK0 hZ hW hS hL)
theorem x_icmp_gt {x y : Int32} {tgt : Nat} (hd : Dq M.2.1 pc (.if_icmp .gt) tgt pc') (kt : y < x → Gx sn xs M d mc ms tgt L st hp nc ns P) (kf : ¬ y < x → Gx sn xs M d mc ms pc' L st hp nc ns P) : Gx sn xs M d mc ms pc L (.int y :: .int x :: st) hp nc ns P := by
  obtain ⟨h1, rfl⟩ := hd
  exact fun l p e s m args below meth c B S D cy H locs ls C hK0 hZ hW hS hL => lv_icmp_gt C.1 C.2.1 h1 (tgt_ok pc tgt) (fun q => kt q l p e s m args below meth c B S D cy H locs ls C hK0 hZ hW hS hL) (fun q => kf q l p e s m args below meth c B S D cy H locs ls C hK0 hZ hW hS hL)
theorem x_icmp_eq {x y : Int32} {tgt : Nat} (hd : Dq M.2.1 pc (.if_icmp .eq) tgt pc') (kt : x = y → Gx sn xs M d mc ms tgt L st hp nc ns P) (kf : ¬ x = y → Gx sn xs M d mc ms pc' L st hp nc ns P) : Gx sn xs M d mc ms pc L (.int y :: .int x :: st) hp nc ns P := by
  obtain ⟨h1, rfl⟩ := hd
  exact fun l p e s m args below meth c B S D cy H locs ls C hK0 hZ hW hS hL => lv_icmp_eq C.1 C.2.1 h1 (tgt_ok pc tgt) (fun q => kt q l p e s m args below meth c B S D cy H locs ls C hK0 hZ hW hS hL) (fun q => kf q l p e s m args below meth c B S D cy H locs ls C hK0 hZ hW hS hL)
theorem x_if_eq {x : Int32} {tgt : Nat} (hd : Dq M.2.1 pc (.ifCond .eq) tgt pc') (kt : x = 0 → Gx sn xs M d mc ms tgt L st hp nc ns P) (kf : ¬ x = 0 → Gx sn xs M d mc ms pc' L st hp nc ns P) : Gx sn xs M d mc ms pc L (.int x :: st) hp nc ns P := by
  obtain ⟨h1, rfl⟩ := hd
  exact fun l p e s m args below meth c B S D cy H locs ls C hK0 hZ hW hS hL => lv_if_eq C.1 C.2.1 h1 (tgt_ok pc tgt) (fun q => kt q l p e s m args below meth c B S D cy H locs ls C hK0 hZ hW hS hL) (fun q => kf q l p e s m args below meth c B S D cy H locs ls C hK0 hZ hW hS hL)
theorem x_lcmp {x y : Int64} (hd : Dc M.2.1 pc .lcmp 1 pc')  (k : Gx sn xs M d mc ms pc' L (.int (lg_cmp x y) :: st) hp nc ns P) : Gx sn xs M d mc ms pc L (.long y :: .long x :: st) hp nc ns P := by
  obtain ⟨h1, rfl⟩ := hd
  exact fun l p e s m args below meth c B S D cy H locs ls C hK0 hZ hW hS hL => W.lcmp C.1 C.2.1 h1 (k l p e s m args below meth c B S D cy H locs ls C hK0 hZ hW hS hL)
theorem x_tableIn {dflt lo hi off : Int} {offs : Array Int} {len tgt : Nat} {x : Int32} (hd : decode M.2.1 pc = .ok (.tableswitch dflt lo hi offs, len)) (h1 : ¬ x.toInt < lo) (h2 : ¬ hi < x.toInt) (ho : offs[(x.toInt - lo).toNat]? = some off) (ht : (pc : Int) + off = (tgt : Int)) (k : Gx sn xs M d mc ms tgt L st hp nc ns P) : Gx sn xs M d mc ms pc L (.int x :: st) hp nc ns P :=
  fun l p e s m args below meth c B S D cy H locs ls C hK0 hZ hW hS hL => lv_tableIn C.1 C.2.1 hd h1 h2 ho ht (k l p e s m args below meth c B S D cy H locs ls C hK0 hZ hW hS hL)
theorem x_tableOut {dflt lo hi : Int} {offs : Array Int} {len tgt : Nat} {x : Int32} (hd : decode M.2.1 pc = .ok (.tableswitch dflt lo hi offs, len)) (h : x.toInt < lo ∨ hi < x.toInt) (ht : (pc : Int) + dflt = (tgt : Int)) (k : Gx sn xs M d mc ms tgt L st hp nc ns P) : Gx sn xs M d mc ms pc L (.int x :: st) hp nc ns P :=
  fun l p e s m args below meth c B S D cy H locs ls C hK0 hZ hW hS hL => lv_tableOut C.1 C.2.1 hd h ht (k l p e s m args below meth c B S D cy H locs ls C hK0 hZ hW hS hL)
theorem x_iinc {i : Nat} {n : Int} {x v : Int32} (hd : Dc M.2.1 pc (.iinc i n) 3 pc') (hi : Nat.ble (i + 1) M.2.2.1 = true) (hn : nlong L i = true) (hl : L[i]? = some (some (.int x))) (hv : x + Int32.ofInt n = v) (k : Gx sn xs M d mc ms pc' (L.set i (some (.int v))) st hp nc ns P) : Gx sn xs M d mc ms pc L st hp nc ns P := by
  obtain ⟨h1, rfl⟩ := hd
  refine fun l p e s m args below meth c B S D cy H locs ls C hK0 hZ hW hS hL => ?_
  obtain ⟨kk, hk⟩ := List.getElem?_of_mem (prL_in (B := B) (S := S) hl)
  exact lv_iinc C.1 C.2.1 h1 (prL_has hL) hk hv (Nat.lt_of_ble_eq_true' hi) rfl (fun ls' h' => k l p e s m args below meth c B S D cy H locs ls' C hK0 hZ hW hS (lh_set1 (v := .int v) hL.2.1 hn h'))
theorem x_goto {tgt : Nat} (hd : Dq M.2.1 pc .goto tgt pc') (k : Gx sn xs M d mc ms tgt L st hp nc ns P) : Gx sn xs M d mc ms pc L st hp nc ns P := by
  obtain ⟨h1, -⟩ := hd
  exact fun l p e s m args below meth c B S D cy H locs ls C hK0 hZ hW hS hL => lv_goto C.1 C.2.1 h1 (tgt_ok pc tgt) (k l p e s m args below meth c B S D cy H locs ls C hK0 hZ hW hS hL)
theorem x_istore_n {i : Fin 4} {x : Int32} (hd : Dc M.2.1 pc (.istore_n i) 1 pc') (hi : Nat.ble ((i : Nat) + 1) M.2.2.1 = true) (hn : nlong L i = true) (k : Gx sn xs M d mc ms pc' (L.set i (some (.int x))) st hp nc ns P) : Gx sn xs M d mc ms pc L (.int x :: st) hp nc ns P := by
  obtain ⟨h1, rfl⟩ := hd
  exact fun l p e s m args below meth c B S D cy H locs ls C hK0 hZ hW hS hL => lv_istore_n C.1 C.2.1 h1 rfl (prL_has hL) (Nat.lt_of_ble_eq_true' hi) rfl (fun ls' h' => k l p e s m args below meth c B S D cy H locs ls' C hK0 hZ hW hS (lh_set1 hL.2.1 hn h'))
theorem x_astore_n {i : Fin 4} {x : Nat} (hd : Dc M.2.1 pc (.astore_n i) 1 pc') (hi : Nat.ble ((i : Nat) + 1) M.2.2.1 = true) (hn : nlong L i = true) (k : Gx sn xs M d mc ms pc' (L.set i (some (.ref x))) st hp nc ns P) : Gx sn xs M d mc ms pc L (.ref x :: st) hp nc ns P := by
  obtain ⟨h1, rfl⟩ := hd
  exact fun l p e s m args below meth c B S D cy H locs ls C hK0 hZ hW hS hL => lv_astore_n C.1 C.2.1 h1 rfl (prL_has hL) (Nat.lt_of_ble_eq_true' hi) rfl (fun ls' h' => k l p e s m args below meth c B S D cy H locs ls' C hK0 hZ hW hS (lh_set1 hL.2.1 hn h'))
theorem x_dup {v : Value} (hd : Dc M.2.1 pc .dup 1 pc') (hc : v.category = 1) (k : Gx sn xs M d mc ms pc' L (v :: v :: st) hp nc ns P) : Gx sn xs M d mc ms pc L (v :: st) hp nc ns P := by
  obtain ⟨h1, rfl⟩ := hd
  exact fun l p e s m args below meth c B S D cy H locs ls C hK0 hZ hW hS hL => lv_dup C.1 C.2.1 h1 ((cv_cat B S v).trans hc) (k l p e s m args below meth c B S D cy H locs ls C hK0 hZ hW hS hL)
theorem x_zret {x : Int32} (hd : Dc M.2.1 pc .ireturn 1 pc') (hr : M.2.2.2 = some .boolean) (hx : narrow .boolean (.int x) = .int x) (h1 : nc ≤ mc) (h2 : ns ≤ ms) (hP : P (some (.int x)) hp) : Gx sn xs M d mc ms pc L [.int x] hp nc ns P := by
  refine fun l p e s m args below meth c B S D cy H locs ls C hK0 hZ hW hS hL => ?_
  refine W.widen h1 h2 ?_
  exact W.zret C.1 C.2.1 (C.2.2.1.trans hr) hx (fun t ht hWm => ⟨⟨some (.int x), hp, rfl, hP, hW.1, by rw [ht]; exact hW.2.1, va_K.moved hWm.alike hW.2.2⟩, hS.F ht⟩) hS.2.2 hd.1 C.2.2.2.2.2.2.1
theorem x_grow {ns' : Nat} {l : Launch} {p : Program} {e : Env} {s : State} {m : MethodId} {args : Array Value} {below : List Frame} {meth : Method} {c : Code} {B : Nat} {S : Nat → Nat} {D : va_G} {cy : Nat → ClassId} {H1 : Heap} {locs : List Loc} {ls : Array Slot} {q : Nat} {x : Nat × List Value} {ex : va_E} (he : ex = ce B S cy x) (hn : Nat.ble (hp.length + 1) 1000000 = true) (k : Gx sn xs M d mc ms pc' L (.ref hp.length :: st) (hp ++ [x]) (nc + 1) ns' P)
    (C : Cx M p s m args meth c B S) (hK0 : Kx sn xs s B S) (hZ : s.heap.size + nc = B + hp.length) (hK : va_K D vwCl (tyl cy) s) (hL : Lh M B S ls L) (hP : va_P D vwCl (wO B S cy hp ++ [(q, ex)]) H1) (hD : va_D (fun q => B ≤ q) (wO B S cy hp ++ [(q, ex)])) (hS : va_S (fun q => B ≤ q) s.heap H1 locs) :
    W p l e (Rm d mc ms) s m args below meth c H1 locs (nc + 1) ns' (MQ below (Qm B S D cy P) args s mc ms (fun q => B ≤ q)) (F0 m pc' ls (.ref q :: st.map (cv B S))) := by
  intro T hT X
  have hz := X.heapSize
  rw [hT] at hz
  have hq := pin hZ hP hD hz
  subst hq
  subst he
  have hn2 := Nat.le_of_ble_eq_true hn
  rw [wO_push] at hP
  have kk := k l p e s m args below meth c B S D cy H1 locs ls C hK0 (by rw [List.length_append, List.length_singleton]; omega) ⟨by rw [List.length_append, List.length_singleton]; omega, hP, hK⟩ hS hL
  rw [List.map_cons, stk_ref (by omega)] at kk
  exact kk T hT X
theorem x_new {idx ci N : Nat} {vs : List Value} (hd : Dc M.2.1 pc (.new idx) 3 pc') (hc : NL M.1.cls idx ci N vs) (hn : Nat.ble (hp.length + 1) 1000000 = true) (h1c : nc + 1 ≤ mc) (h1s : ns + N ≤ ms) (k : Gx sn xs M d mc ms pc' L (.ref hp.length :: st) (hp ++ [(ci, vs)]) (nc + 1) (ns + N) P) : Gx sn xs M d mc ms pc L st hp nc ns P := by
  obtain ⟨h1, rfl⟩ := hd
  obtain ⟨CC, TC, ty, ⟨hcl, hci, hin, -, -⟩, w1, w2, w3, hty, hdf, hcv⟩ := hc
  refine fun l p e s m args below meth c B S D cy H locs ls C hK0 hZ hW hS hL => ?_
  refine va_new (C := CC) (T := TC) (N := N) (ci := ci) (fs := vs) C.1 C.2.1 C.2.2.2.2.2.1 hin ty hty C.2.2.2.2.1 (C.2.2.2.2.2.1 _ w1) (C.2.2.2.2.2.1 _ w2) (C.2.2.2.2.2.1 _ w3) hW.2.2 hW.2.1 wO_D hS (fun q hq => Nat.le_trans C.2.2.2.2.2.2.2.2.2.2 hq) hcl hdf h1c h1s h1 (fun q H1 hP1 hD1 hS1 => ?_)
  exact x_grow (by rw [ce_obj hci, hcv]) hn k C hK0 hZ hW.2.2 hL hP1 hD1 hS1
theorem x_behind_call {mc' ms' : Nat} {P' : Option Value → Hp → Prop} {l : Launch} {p : Program} {e : Env} {s : State} {m : MethodId} {args : Array Value} {below : List Frame} {meth : Method} {c : Code} {B : Nat} {S : Nat → Nat} {D : va_G} {cy : Nat → ClassId} {H : Heap} {locs : List Loc} {ls : Array Slot} {a : Array Value} {stk : List Value}
    (C : Cx M p s m args meth c B S) (hK0 : Kx sn xs s B S) (hZ : s.heap.size + nc = B + hp.length) (hW : Wd B S D cy hp s H) (hS : va_S (fun q => B ≤ q) s.heap H locs) (hL : Lh M B S ls L)
    (hlen : ∀ v hp', P' v hp' → hp'.length = hp.length + mc') (k : ∀ v hp', P' v hp' → Gx sn xs M d mc ms (pc + 3) L (v.toList ++ st) hp' (nc + mc') (ns + ms') P)
    (hr : va_Run p l e (Rm d mc ms) s m args below meth c H locs nc ns mc' ms' (F0 m pc ls stk) (st.map (cv B S)) (Qm B S D cy P' a) (fun q => B ≤ q)) :
    W p l e (Rm d mc ms) s m args below meth c H locs nc ns (MQ below (Qm B S D cy P) args s mc ms (fun q => B ≤ q)) (F0 m pc ls stk) := by
  intro T hT X
  obtain ⟨v, st₀, t, T', Lc, h0, X', hLc, e1, e2, ⟨⟨v', hp', hv, hP', hWd'⟩, hz, hk⟩, stp⟩ := hr T hT X
  cases hv
  rw [h0] at hz hk
  have kk := k v' hp' hP' l p e s m args below meth c B S D cy T'.heap (locs ++ Lc) ls C hK0 (by rw [hlen v' hp' hP']; omega) ⟨hWd'.1, by rw [e1]; exact hWd'.2.1, hW.2.2⟩ ⟨Nat.le_trans hS.1 (by rw [e1]; exact hz), fun q h1 h2 => by rw [e1, hk q (Nat.lt_of_lt_of_le h1 hS.1) h2]; exact hS.2.1 q h1 h2, fun q hq => by
      rcases List.mem_append.mp hq with h | h
      · exact hS.2.2 q h
      · exact hLc q h⟩ hL
  obtain ⟨t2, a1, b1⟩ := kk T' rfl X'
  refine ⟨t2, stp t2 ?_, b1⟩
  have e3 : (v'.map (cv B S)).toList ++ st.map (cv B S) = (v'.toList ++ st).map (cv B S) := by cases v' <;> simp
  rw [e3]
  exact a1
theorem x_callV {N : Meth} {idx n d' mc' ms' o ci : Nat} {As vs : List Value} {P' : Option Value → Hp → Prop} {q : vw_C} (hd : Dc M.2.1 pc (.invokevirtual idx) 3 pc') (hc : CLV M.1.cls idx N n) (hN : Mt N d' mc' ms' (.ref o :: As) hp P') (ho : hp[o]? = some (ci, vs)) (hci : ci < 8) (hq : vwCl[ci]? = some q) (hq1 : q.1 = N.1.cls) (hn : As.length = n) (hst : (st.map fun v => v.category).sum ≤ 8) (hd' : d' + 1 ≤ d) (hmc : nc + mc' ≤ mc) (hms : ns + ms' ≤ ms) (hlen : ∀ v hp', P' v hp' → hp'.length = hp.length + mc') (k : ∀ v hp', P' v hp' → Gx sn xs M d mc ms pc' L (v.toList ++ st) hp' (nc + mc') (ns + ms') P) : Gx sn xs M d mc ms pc L (As.reverse ++ .ref o :: st) hp nc ns P := by
  obtain ⟨h1, rfl⟩ := hd
  refine fun l p e s m args below meth c B S D cy H locs ls C hK0 hZ hW hS hL => ?_
  intro T hT X
  have hsz : H.size = B + hp.length := by
    have g1 := X.heapSize
    rw [hT] at g1
    have g2 := wd_le hW (Nat.le_trans C.2.2.2.2.2.2.2.2.2.2 hS.1)
    omega
  refine x_behind_call C hK0 hZ hW hS hL hlen k (va_runV (As := As.map (cv B S)) (C := N.1.cls) (b := B + o) (bytes := N.2.1) (maxL := N.2.2.1) (ret := N.2.2.2) (n := n) ⟨C.1, C.2.1, C.2.2.2.1, C.2.2.2.2.1, C.2.2.2.2.2.1⟩ (hN l B S D cy) ⟨callB_of n C.2.2.2.2.2.1 (goodM hc.2.2.2) rfl rfl rfl (C.2.2.2.2.2.1 _ hc.2.2.2.1) (C.2.2.2.2.2.1 _ hc.1) hc.2.2.2.2.2.1 ⟨hd', by show 8 + (N.2.2.1 + 11) + 100 * d' ≤ 100 * d; have := hc.2.2.2.2.2.2; omega⟩, C.2.2.2.2.2.1 _ hc.2.1, C.2.2.2.2.2.1 _ hc.2.2.1⟩ ⟨blindM, ?_, ?_⟩ rfl (by rw [List.length_map]; exact hn) hL.1 ?_ (stW hst) h1 ⟨hmc, hms⟩) T hT X
  · obtain ⟨cell, g1, g2, g3⟩ := va_recv hW.2.2 hW.2.1 (q := q) (ci := ci) (q0 := o) (a := B + o) hq ((wO_at ho).trans (by rw [ce_obj hci]))
    exact ⟨cell, g1, g2, by rw [← hq1]; exact g3⟩
  · exact fun U hU hWm => ⟨by rw [List.map_cons, stk_ref (wd_lt hW ho)], by rw [hU]; exact hsz, ⟨hW.1, by rw [hU]; exact hW.2.1, va_K.moved hWm.alike hW.2.2⟩, sd_moved hWm.alike (by rw [hU]; exact sd_kept C.2.2.2.2.2.2.2.2.1 hS.2.1), nx_warm hWm C.2.2.2.2.2.2.2.2.2.1⟩
  · show ((As.reverse ++ .ref o :: st).map (cv B S)) = _
    rw [List.map_append, List.map_reverse, List.map_cons, stk_ref (wd_lt hW ho)]
theorem x_callI {N : Meth} {idx n d' mc' ms' o : Nat} {As : List Value} {P' : Option Value → Hp → Prop} {q : Nat × List Value} (hd : Dc M.2.1 pc (.invokespecial idx) 3 pc') (hc : CLI M.1.cls idx N n) (hN : Mt N d' mc' ms' (.ref o :: As) hp P') (ho : hp[o]? = some q) (hn : As.length = n) (hst : (st.map fun v => v.category).sum ≤ 8) (hd' : d' + 1 ≤ d) (hmc : nc + mc' ≤ mc) (hms : ns + ms' ≤ ms) (hlen : ∀ v hp', P' v hp' → hp'.length = hp.length + mc') (k : ∀ v hp', P' v hp' → Gx sn xs M d mc ms pc' L (v.toList ++ st) hp' (nc + mc') (ns + ms') P) : Gx sn xs M d mc ms pc L (As.reverse ++ .ref o :: st) hp nc ns P := by
  obtain ⟨h1, rfl⟩ := hd
  refine fun l p e s m args below meth c B S D cy H locs ls C hK0 hZ hW hS hL => ?_
  intro T hT X
  have hsz : H.size = B + hp.length := by
    have g1 := X.heapSize
    rw [hT] at g1
    have g2 := wd_le hW (Nat.le_trans C.2.2.2.2.2.2.2.2.2.2 hS.1)
    omega
  refine x_behind_call C hK0 hZ hW hS hL hlen k (va_runI (As := As.map (cv B S)) (b := B + o) (bytes := N.2.1) (maxL := N.2.2.1) (n := n) ⟨C.1, C.2.1, C.2.2.2.1, C.2.2.2.2.1, C.2.2.2.2.2.1⟩ (hN l B S D cy) ⟨callB_of n C.2.2.2.2.2.1 (goodM hc.2.2.2.2) (by rw [wM, hc.2.2.2.1]) rfl rfl (C.2.2.2.2.2.1 _ hc.2.2.2.2.1) (C.2.2.2.2.2.1 _ hc.1) hc.2.2.2.2.2.2.1 ⟨hd', by show 8 + (N.2.2.1 + 11) + 100 * d' ≤ 100 * d; have := hc.2.2.2.2.2.2.2; omega⟩, hc.2.2.1, C.2.2.2.2.2.1 _ hc.2.1⟩ ⟨blindM, ?_⟩ rfl (by rw [List.length_map]; exact hn) hL.1 ?_ (stW hst) h1 ⟨hmc, hms⟩) T hT X
  · exact fun U hU hWm => ⟨by rw [List.map_cons, stk_ref (wd_lt hW ho)], by rw [hU]; exact hsz, ⟨hW.1, by rw [hU]; exact hW.2.1, va_K.moved hWm.alike hW.2.2⟩, sd_moved hWm.alike (by rw [hU]; exact sd_kept C.2.2.2.2.2.2.2.2.1 hS.2.1), nx_warm hWm C.2.2.2.2.2.2.2.2.2.1⟩
  · show ((As.reverse ++ .ref o :: st).map (cv B S)) = _
    rw [List.map_append, List.map_reverse, List.map_cons, stk_ref (wd_lt hW ho)]
theorem x_slen {v : Int32} (hd : Dc M.2.1 pc .arraylength 1 pc') (hv : Int32.ofNat sn = v) (k : Gx sn xs M d mc ms pc' L (.int v :: st) hp nc ns P) : Gx sn xs M d mc ms pc L (.ref 1000003 :: st) hp nc ns P := by
  obtain ⟨h1, rfl⟩ := hd
  subst hv
  exact fun l p e s m args below meth c B S D cy H locs ls C hK0 hZ hW hS hL => va_slen C.1 C.2.1 hK0.1 hK0.2.1 hK0.2.2 hS h1 (k l p e s m args below meth c B S D cy H locs ls C hK0 hZ hW hS hL)
theorem x_sald {i : Nat} (hd : Dc M.2.1 pc .iaload 1 pc') (hi : i < sn) (hn : sn < 2 ^ 31) (k : Gx sn xs M d mc ms pc' L (.int (xs i) :: st) hp nc ns P) : Gx sn xs M d mc ms pc L (.int (nI i) :: .ref 1000003 :: st) hp nc ns P := by
  obtain ⟨h1, rfl⟩ := hd
  refine fun l p e s m args below meth c B S D cy H locs ls C hK0 hZ hW hS hL => va_sld C.1 C.2.1 hK0.1 hK0.2.1 hK0.2.2 hS (nI_in hi hn) h1 ?_
  rw [nI_clamp (by omega)]
  exact k l p e s m args below meth c B S D cy H locs ls C hK0 hZ hW hS hL
/-- an argument out of the script -/
theorem x_arg {p1 p2 p3 p4 p5 j i : Nat} (ja : Int) {L' : List (Option Value)} (h1 : Dc M.2.1 pc (.aload_n 0) 1 p1) (h2 : Dc M.2.1 p1 (.iload_n 3) 1 p2) (h3 : Dc M.2.1 p2 (.iconst ja) 1 p3) (h4 : Dc M.2.1 p3 .iadd 1 p4) (h5 : Dc M.2.1 p4 .iaload 1 p5) (hj : Int32.ofInt ja = nI j) (hL0 : L[0]? = some (some (.ref 1000003))) (hL3 : L[3]? = some (some (.int (nI i)))) (hi : i + j < sn) (hn : sn < 2 ^ 31) (k : Gx sn xs M d mc ms p5 L (.int (xs (i + j)) :: st) hp nc ns P) : Gx sn xs M d mc ms pc L st hp nc ns P := by
  refine x_aload_n h1 hL0 ?_
  refine x_iload_n h2 hL3 ?_
  refine x_iconst h3 hj ?_
  refine x_iadd h4 ?_
  rw [nI_add]
  exact x_sald h5 hi hn k
/-- a call of the class's or the reference's method, over the loop's heap -/
theorem x_call {h : Hv} {N : Meth} {idx n d' o ci : Nat} {As : List Value} {sl : List (Option Nat)} {Q : Option Value → Hv → Prop} {q : vw_C} (hd : Dc M.2.1 pc (.invokevirtual idx) 3 pc') (hc : CLV M.1.cls idx N n) (hN : MtH N d' (.ref o :: As) h Q) (ho : SP[o]? = some (ci, sl)) (hci : ci < 8) (hq : vwCl[ci]? = some q) (hq1 : q.1 = N.1.cls) (hn : As.length = n) (hst : (st.map fun v => v.category).sum ≤ 8) (hd' : d' + 1 ≤ d) (hmc : nc ≤ mc) (hms : ns ≤ ms) (k : ∀ v h', Q v h' → Gx sn xs M d mc ms pc' L (v.toList ++ st) (mk h') nc ns P) : Gx sn xs M d mc ms pc L (As.reverse ++ .ref o :: st) (mk h) nc ns P :=
  x_callV hd hc hN (mk_at ho) hci hq hq1 hn hst hd' hmc hms (fun v hp' hQ => by
    obtain ⟨h', e, -⟩ := hQ
    rw [e, mk_len, mk_len]) (fun v hp' hQ => by
    obtain ⟨h', e, hQ2⟩ := hQ
    rw [e]
    exact k v h' hQ2)
theorem x_init {N : Meth} {idx d' mc' ms' q nc' ns' : Nat} {cell : Nat × List Value} {hp2 : Hp} (h : CLI M.1.cls idx N 0) (hd : Dc M.2.1 pc (.invokespecial idx) 3 pc') (hN : Mt N d' mc' ms' [.ref q] hp (fun v hp' => v = none ∧ hp' = hp2)) (hq : hp[q]? = some cell) (hst : (st.map fun v => v.category).sum ≤ 8) (hd' : d' + 1 ≤ d) (hnc : nc + mc' = nc') (hns : ns + ms' = ns') (hmc : nc' ≤ mc) (hms : ns' ≤ ms) (hlen : hp2.length = hp.length + mc') (k : Gx sn xs M d mc ms pc' L st hp2 nc' ns' P) : Gx sn xs M d mc ms pc L (.ref q :: st) hp nc ns P := by
  subst hnc hns
  exact x_callI (As := []) hd h hN hq rfl hst hd' hmc hms (fun v hp' h => by rw [h.2]; exact hlen) (fun v hp' h => by
      obtain ⟨rfl, rfl⟩ := h
      exact k)
end Rules

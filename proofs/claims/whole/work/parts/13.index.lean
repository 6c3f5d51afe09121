/-! indices that are counted by naturals -/
theorem nAdd {x y : Int32} {a b : Nat} (hx : x = nI a) (hy : y = nI b) : x + y = nI (a + b) := by
  rw [hx, hy]
  exact nI_add a b
theorem nMul {x y : Int32} {a b : Nat} (hx : x = nI a) (hy : y = nI b) : x * y = nI (a * b) := by
  rw [hx, hy]
  exact pk_mul a b
theorem in_E {i : Int32} {k n : Nat} (hi : i = nI k) (hk : k < n) (hn : n < 2 ^ 31) : vp_in i n ∧ i.toNatClampNeg = k := by
  subst hi
  exact ⟨vp_in_nI hk hn, nI_clamp (by omega)⟩
section Rules
variable {M : Meth} {d pc pc' : Nat} {L : List (Option Value)} {st : List Value} {h g : Hv} {P : Option Value → Hv → Prop}
theorem h_aldE {o n k : Nat} {i : Int32} (hd : Dc M.2.1 pc .iaload 1 pc') (ho : SP[o]? = some (8, List.replicate n none)) (hi : i = nI k) (hk : k < n) (hn : n < 2 ^ 31) (kk : GdH M d pc' L (.int (h o k) :: st) h P) : GdH M d pc L (.int i :: .ref o :: st) h P := by
  obtain ⟨h1, h2⟩ := in_E hi hk hn
  refine h_iald hd ho h1 ?_
  rw [h2]
  exact kk
theorem h_astE {o n k : Nat} {i x : Int32} (hd : Dc M.2.1 pc .iastore 1 pc') (ho : SP[o]? = some (8, List.replicate n none)) (hi : i = nI k) (hk : k < n) (hn : n < 2 ^ 31) (kk : GdH M d pc' L st (hset h o k x) P) : GdH M d pc L (.int x :: .int i :: .ref o :: st) h P := by
  obtain ⟨h1, h2⟩ := in_E hi hk hn
  refine h_iast hd ho h1 ?_
  rw [h2]
  exact kk
theorem hh_aldE {o j n k : Nat} {i : Int32} (hd : Dc M.2.1 pc .iaload 1 pc') (ho : SP[o + j]? = some (8, List.replicate n none)) (hj : j < 12) (hi : i = nI k) (hk : k < n) (hn : n < 2 ^ 31) (kk : GdH M d pc' L (.int (g j k) :: st) (pu h o g) P) : GdH M d pc L (.int i :: .ref (o + j) :: st) (pu h o g) P := by
  obtain ⟨h1, h2⟩ := in_E hi hk hn
  refine hh_ald hd ho hj h1 ?_
  rw [h2]
  exact kk
theorem hh_astE {o j n k : Nat} {i x : Int32} (hd : Dc M.2.1 pc .iastore 1 pc') (ho : SP[o + j]? = some (8, List.replicate n none)) (hj : j < 12) (hi : i = nI k) (hk : k < n) (hn : n < 2 ^ 31) (kk : GdH M d pc' L st (pu h o (hset g j k x)) P) : GdH M d pc L (.int x :: .int i :: .ref (o + j) :: st) (pu h o g) P := by
  obtain ⟨h1, h2⟩ := in_E hi hk hn
  refine hh_ast hd ho hj h1 ?_
  rw [h2]
  exact kk
theorem mm_aldE {a j n k : Nat} {i : Int32} (hd : Dc M.2.1 pc .iaload 1 pc') (ho : SP[a]? = some (8, List.replicate n none)) (ha : a = 360 + j) (hj : j < 18) (hi : i = nI k) (hk : k < n) (hn : n < 2 ^ 31) (kk : GdH M d pc' L (.int (g j k) :: st) (mu h g) P) : GdH M d pc L (.int i :: .ref a :: st) (mu h g) P := by
  obtain ⟨h1, h2⟩ := in_E hi hk hn
  refine mm_ald hd ho ha hj h1 ?_
  rw [h2]
  exact kk
theorem mm_astE {a j n k : Nat} {i x : Int32} (hd : Dc M.2.1 pc .iastore 1 pc') (ho : SP[a]? = some (8, List.replicate n none)) (ha : a = 360 + j) (hj : j < 18) (hi : i = nI k) (hk : k < n) (hn : n < 2 ^ 31) (kk : GdH M d pc' L st (mu h (hset g j k x)) P) : GdH M d pc L (.int x :: .int i :: .ref a :: st) (mu h g) P := by
  obtain ⟨h1, h2⟩ := in_E hi hk hn
  refine mm_ast hd ho ha hj h1 ?_
  rw [h2]
  exact kk
theorem hh_getV {idx o kf : Nat} {fin : Bool} {ty : FieldType} {v : Int32} (hd : Dc M.2.1 pc (.getfield idx) 3 pc') (hf : FL M.1.cls idx 2 kf fin ty) (ho : isHall o) (hk : kf < 5) (hv : g 0 kf = v) (k : GdH M d pc' L (.int v :: st) (pu h o g) P) : GdH M d pc L (.ref o :: st) (pu h o g) P := hh_getI hd hf ho hk (by rw [hv]; exact k)
theorem hh_aldV {o j n k : Nat} {i v : Int32} (hd : Dc M.2.1 pc .iaload 1 pc') (ho : SP[o + j]? = some (8, List.replicate n none)) (hj : j < 12) (hi : i = nI k) (hk : k < n) (hn : n < 2 ^ 31) (hv : g j k = v) (kk : GdH M d pc' L (.int v :: st) (pu h o g) P) : GdH M d pc L (.int i :: .ref (o + j) :: st) (pu h o g) P := hh_aldE hd ho hj hi hk hn (by rw [hv]; exact kk)
theorem mm_getV {idx kf : Nat} {fin : Bool} {ty : FieldType} {sl : List (Option Nat)} {v : Int32} (hd : Dc M.2.1 pc (.getfield idx) 3 pc') (hf : FL M.1.cls idx 7 kf fin ty) (hs : SP[360]? = some (7, sl)) (hj : sl[kf]? = some none) (hv : g 0 kf = v) (k : GdH M d pc' L (.int v :: st) (mu h g) P) : GdH M d pc L (.ref 360 :: st) (mu h g) P := mm_getI hd hf hs hj (by rw [hv]; exact k)
theorem mm_aldV {a j n k : Nat} {i v : Int32} (hd : Dc M.2.1 pc .iaload 1 pc') (ho : SP[a]? = some (8, List.replicate n none)) (ha : a = 360 + j) (hj : j < 18) (hi : i = nI k) (hk : k < n) (hn : n < 2 ^ 31) (hv : g j k = v) (kk : GdH M d pc' L (.int v :: st) (mu h g) P) : GdH M d pc L (.int i :: .ref a :: st) (mu h g) P := mm_aldE hd ho ha hj hi hk hn (by rw [hv]; exact kk)
theorem h_getV {idx ci kf o : Nat} {fin : Bool} {ty : FieldType} {sl : List (Option Nat)} {v : Int32} (hd : Dc M.2.1 pc (.getfield idx) 3 pc') (hf : FL M.1.cls idx ci kf fin ty) (ho : SP[o]? = some (ci, sl)) (hj : sl[kf]? = some none) (hv : h o kf = v) (k : GdH M d pc' L (.int v :: st) h P) : GdH M d pc L (.ref o :: st) h P := h_getI hd hf ho hj (by rw [hv]; exact k)
theorem h_aldV {o n k : Nat} {i v : Int32} (hd : Dc M.2.1 pc .iaload 1 pc') (ho : SP[o]? = some (8, List.replicate n none)) (hi : i = nI k) (hk : k < n) (hn : n < 2 ^ 31) (hv : h o k = v) (kk : GdH M d pc' L (.int v :: st) h P) : GdH M d pc L (.int i :: .ref o :: st) h P := h_aldE hd ho hi hk hn (by rw [hv]; exact kk)
theorem mk_congr {h1 h2 : Hv} (he : ∀ (o t : Nat) (sl : List (Option Nat)), SP[o]? = some (t, sl) → ∀ j, sl[j]? = some none → h1 o j = h2 o j) : mk h1 = mk h2 := by
  apply List.ext_getElem?
  intro i
  cases hi : SP[i]? with
  | none =>
    unfold mk
    rw [List.getElem?_mapIdx, List.getElem?_mapIdx, hi]
    rfl
  | some e =>
    obtain ⟨t, sl⟩ := e
    rw [mk_at hi, mk_at hi]
    refine congrArg some (congrArg (Prod.mk t) ?_)
    apply List.ext_getElem?
    intro q
    cases hq : sl[q]? with
    | none =>
      unfold cn
      rw [List.getElem?_mapIdx, List.getElem?_mapIdx, hq]
      rfl
    | some r =>
      cases r with
      | none => rw [cn_int hq, cn_int hq, he i t sl hi q hq]
      | some z => rw [cn_ref hq, cn_ref hq]
/-- the same heap, told otherwise -/
theorem h_as {h2 : Hv} (he : mk h = mk h2) (k : GdH M d pc L st h2 P) : GdH M d pc L st h P := by
  unfold GdH
  rw [he]
  exact k
theorem h_weaken {P' : Option Value → Hv → Prop} (k : GdH M d pc L st h P') (hw : ∀ v h', P' v h' → P v h') : GdH M d pc L st h P := by
  intro l p e s m args below meth c B S D cy H locs ls C hZ hW hS hL T hT X
  obtain ⟨t, a1, o, b1, b2, b3, b4⟩ := k l p e s m args below meth c B S D cy H locs ls C hZ hW hS hL T hT X
  refine ⟨t, a1, o, b1, b2, ?_, b4⟩
  obtain ⟨⟨v, hp', e1, ⟨h', e2, hp⟩, hw'⟩, hF⟩ := b3
  exact ⟨⟨v, hp', e1, ⟨h', e2, hw v h' hp⟩, hw'⟩, hF⟩
theorem MtH.weaken {As : List Value} {P' : Option Value → Hv → Prop} (k : MtH M d As h P') (hw : ∀ v h', P' v h' → P v h') : MtH M d As h P := by
  intro l B S D cy
  have q := k l B S D cy
  unfold Met at q ⊢
  intro p e ha hc hk s m args below hf hh hP hK
  obtain ⟨t, o, a1, a2, a3, ⟨⟨⟨v, hp', e1, ⟨h', e2, hp⟩, hw'⟩, hF⟩, a5⟩⟩ := q p e ha hc hk s m args below hf hh hP hK
  exact ⟨t, o, a1, a2, a3, ⟨⟨v, hp', e1, ⟨h', e2, hw v h' hp⟩, hw'⟩, hF⟩, a5⟩
theorem g_taldE {j k : Nat} {i : Int32} (hd : Dc M.2.1 pc .iaload 1 pc') (hj : j < 3) (hi : i = nI k) (hk : k < 6) (kk : GdH M d pc' L (.int (sT j k) :: st) h P) : GdH M d pc L (.int i :: .ref (1000000 + j) :: st) h P := by
  obtain ⟨h1, h2⟩ := in_E hi hk (by decide)
  refine g_tald hd hj h1 ?_
  rw [h2]
  exact kk
end Rules
theorem pl_X0 : plainName RX0 = true := by decide +kernel
theorem pl_X1 : plainName RX1 = true := by decide +kernel
theorem pl_X2 : plainName RX2 = true := by decide +kernel
theorem pl_X3 : plainName RX3 = true := by decide +kernel
theorem pl_X4 : plainName RX4 = true := by decide +kernel
theorem pl_X5 : plainName RX5 = true := by decide +kernel
theorem pl_X6 : plainName RX6 = true := by decide +kernel
theorem pl_X7 : plainName RX7 = true := by decide +kernel
theorem pl_J6 : plainName RJ6 = true := by decide +kernel

def MXw (own : String) (idx : Nat) (y : MethodName) (cd : ByteArray) (mx : Nat) (rt : Option FieldType) : Prop := Cond.methodLink own idx y ∈ TT ∧ Cond.static y ∈ TT ∧ Cond.initialized "java/lang/Math" ∈ TT ∧ Cond.code y cd mx rt ∈ TT
section Rules
variable {M : Meth} {d pc pc' : Nat} {L : List (Option Value)} {st : List Value} {h g : Hv} {P : Option Value → Hv → Prop}
theorem stL {B : Nat} {S : Nat → Nat} {st : List Value} {d mc ms n : Nat} (hd1 : 1 ≤ d) (hst : (st.map fun v => v.category).sum ≤ 8) (hn : n ≤ 60) : ((st.map (cv B S)).map fun v => v.category).sum + n ≤ (Rm d mc ms).locals := by
  rw [List.map_map]
  have e : ((fun v : Value => v.category) ∘ cv B S) = fun v => v.category := funext fun v => cv_cat B S v
  rw [e]
  show _ ≤ 100 * d
  omega
theorem g_mmax {idx : Nat} {x y : Int32} (hd : Dc M.2.1 pc (.invokestatic idx) 3 pc') (hc : MXw M.1.cls idx Lib.Math.max.name Lib.Math.max.code 2 (some .int)) (hst : (st.map fun v => v.category).sum ≤ 8) (hd1 : 1 ≤ d) (k : GdH M d pc' L (.int (if x < y then y else x) :: st) h P) : GdH M d pc L (.int y :: .int x :: st) h P := by
  obtain ⟨h1, rfl⟩ := hd
  exact fun l p e s m args below meth c B S D cy H locs ls C hZ hW hS hL => va_mmax C.1 C.2.1 (C.2.2.2.1.trans hL.1.symm) C.2.2.2.2.1 (C.2.2.2.2.2.1 _ hc.1) (C.2.2.2.2.2.1 _ hc.2.1) (C.2.2.2.2.2.1 _ hc.2.2.1) (C.2.2.2.2.2.1 _ hc.2.2.2) hd1 (stL hd1 hst (by decide)) (Nat.zero_le _) (Nat.zero_le _) h1 (k l p e s m args below meth c B S D cy H locs ls C hZ hW hS hL)
theorem g_mmin {idx : Nat} {x y : Int32} (hd : Dc M.2.1 pc (.invokestatic idx) 3 pc') (hc : MXw M.1.cls idx Lib.Math.min.name Lib.Math.min.code 2 (some .int)) (hst : (st.map fun v => v.category).sum ≤ 8) (hd1 : 1 ≤ d) (k : GdH M d pc' L (.int (if y < x then y else x) :: st) h P) : GdH M d pc L (.int y :: .int x :: st) h P := by
  obtain ⟨h1, rfl⟩ := hd
  exact fun l p e s m args below meth c B S D cy H locs ls C hZ hW hS hL => va_mmin C.1 C.2.1 (C.2.2.2.1.trans hL.1.symm) C.2.2.2.2.1 (C.2.2.2.2.2.1 _ hc.1) (C.2.2.2.2.2.1 _ hc.2.1) (C.2.2.2.2.2.1 _ hc.2.2.1) (C.2.2.2.2.2.1 _ hc.2.2.2) hd1 (stL hd1 hst (by decide)) (Nat.zero_le _) (Nat.zero_le _) h1 (k l p e s m args below meth c B S D cy H locs ls C hZ hW hS hL)
theorem g_mmaxL {idx : Nat} {x y : Int64} (hd : Dc M.2.1 pc (.invokestatic idx) 3 pc') (hc : MXw M.1.cls idx Lib.MathLoose.max_long.x Lib.MathLoose.max_long.code 4 (some .long)) (hst : (st.map fun v => v.category).sum ≤ 8) (hd1 : 1 ≤ d) (k : GdH M d pc' L (.long (if y < x then x else y) :: st) h P) : GdH M d pc L (.long y :: .long x :: st) h P := by
  obtain ⟨h1, rfl⟩ := hd
  exact fun l p e s m args below meth c B S D cy H locs ls C hZ hW hS hL => va_mmax_long C.1 C.2.1 (C.2.2.2.1.trans hL.1.symm) C.2.2.2.2.1 (C.2.2.2.2.2.1 _ hc.1) (C.2.2.2.2.2.1 _ hc.2.1) (C.2.2.2.2.2.1 _ hc.2.2.1) (C.2.2.2.2.2.1 _ hc.2.2.2) hd1 (stL hd1 hst (by decide)) (Nat.zero_le _) (Nat.zero_le _) h1 (k l p e s m args below meth c B S D cy H locs ls C hZ hW hS hL)
end Rules
theorem mx_6_295 : MXw RX6 295 Lib.Math.min.name Lib.Math.min.code 2 (some .int) := ⟨tt_of 732 (by decide +kernel) rfl, tt_of 501 (by decide +kernel) rfl, tt_of 85 (by decide +kernel) rfl, tt_of 502 (by decide +kernel) rfl⟩
theorem mx_6_300 : MXw RX6 300 Lib.Math.max.name Lib.Math.max.code 2 (some .int) := ⟨tt_of 737 (by decide +kernel) rfl, tt_of 533 (by decide +kernel) rfl, tt_of 85 (by decide +kernel) rfl, tt_of 534 (by decide +kernel) rfl⟩
theorem mx_6_325 : MXw RX6 325 Lib.MathLoose.max_long.x Lib.MathLoose.max_long.code 4 (some .long) := ⟨tt_of 770 (by decide +kernel) rfl, tt_of 771 (by decide +kernel) rfl, tt_of 85 (by decide +kernel) rfl, tt_of 772 (by decide +kernel) rfl⟩
theorem mx_0_29 : MXw RX0 29 Lib.Math.min.name Lib.Math.min.code 2 (some .int) := ⟨tt_of 500 (by decide +kernel) rfl, tt_of 501 (by decide +kernel) rfl, tt_of 85 (by decide +kernel) rfl, tt_of 502 (by decide +kernel) rfl⟩
theorem mx_2_71 : MXw RX2 71 Lib.Math.max.name Lib.Math.max.code 2 (some .int) := ⟨tt_of 532 (by decide +kernel) rfl, tt_of 533 (by decide +kernel) rfl, tt_of 85 (by decide +kernel) rfl, tt_of 534 (by decide +kernel) rfl⟩
theorem mx_2_101 : MXw RX2 101 Lib.Math.min.name Lib.Math.min.code 2 (some .int) := ⟨tt_of 515 (by decide +kernel) rfl, tt_of 501 (by decide +kernel) rfl, tt_of 85 (by decide +kernel) rfl, tt_of 502 (by decide +kernel) rfl⟩

/-! a block of cells seen by itself: a hall (12 cells from o on), the reference (18 cells from 360 on) -/
def blk (n : Nat) (h : Hv) (o : Nat) (g : Hv) : Hv := fun a b => if o ≤ a ∧ a < o + n then g (a - o) b else h a b
def vw (h : Hv) (o : Nat) : Hv := fun j b => h (o + j) b
abbrev pu (h : Hv) (o : Nat) (g : Hv) : Hv := blk 12 h o g
abbrev mu (h : Hv) (w : Hv) : Hv := blk 18 h 360 w
theorem blk_at {n : Nat} {h : Hv} {o : Nat} {g : Hv} {j b : Nat} (hj : j < n) : blk n h o g (o + j) b = g j b := by
  unfold blk
  rw [if_pos ⟨by omega, by omega⟩, Nat.add_sub_cancel_left]
theorem blk_0 {n : Nat} {h : Hv} {o : Nat} {g : Hv} {b : Nat} (hj : 0 < n) : blk n h o g o b = g 0 b := blk_at (j := 0) hj
theorem blk_out {n : Nat} {h : Hv} {o : Nat} {g : Hv} {a b : Nat} (ha : a < o ∨ o + n ≤ a) : blk n h o g a b = h a b := by
  unfold blk
  rw [if_neg (by omega)]
theorem blk_set {n : Nat} {h : Hv} {o : Nat} {g : Hv} {j b : Nat} {v : Int32} (hj : j < n) : hset (blk n h o g) (o + j) b v = blk n h o (hset g j b v) := by
  funext x y
  unfold hset blk
  dsimp only
  by_cases hx : o ≤ x ∧ x < o + n
  · rw [if_pos hx, if_pos hx]
    by_cases e : x = o + j
    · subst e
      rw [Nat.add_sub_cancel_left]
      by_cases ey : y = b
      · rw [if_pos ⟨rfl, ey⟩, if_pos ⟨rfl, ey⟩]
      · rw [if_neg (fun q => ey q.2), if_neg (fun q => ey q.2)]
    · rw [if_neg (fun q => e q.1), if_neg (fun q => e (by have h9 : x - o = j := q.1; omega))]
  · rw [if_neg hx, if_neg hx, if_neg (fun q => hx (by rw [q.1]; omega))]
theorem blk_set0 {n : Nat} {h : Hv} {o : Nat} {g : Hv} {b : Nat} {v : Int32} (hj : 0 < n) : hset (blk n h o g) o b v = blk n h o (hset g 0 b v) := blk_set (j := 0) hj
theorem blk_blk {n : Nat} {h : Hv} {o : Nat} {g g' : Hv} : blk n (blk n h o g) o g' = blk n h o g' := by
  funext x y
  unfold blk
  split <;> rfl
theorem blk_vw {n : Nat} {h : Hv} {o : Nat} : blk n h o (vw h o) = h := by
  funext x y
  unfold blk vw
  split
  · rename_i hx
    rw [Nat.add_sub_cancel' hx.1]
  · rfl
theorem vw_blk {n : Nat} {h : Hv} {o : Nat} {g : Hv} {j b : Nat} (hj : j < n) : vw (blk n h o g) o j b = g j b := blk_at hj
theorem vw_out {n : Nat} {h : Hv} {o q : Nat} {g : Hv} {j b : Nat} (hj : q + j < o ∨ o + n ≤ q + j) : vw (blk n h o g) q j b = vw h q j b := blk_out hj
theorem pu_at {h : Hv} {o : Nat} {g : Hv} {j b : Nat} (hj : j < 12) : pu h o g (o + j) b = g j b := blk_at hj
theorem pu_0 {h : Hv} {o : Nat} {g : Hv} {b : Nat} : pu h o g o b = g 0 b := blk_0 (by decide)
theorem pu_set {h : Hv} {o : Nat} {g : Hv} {j b : Nat} {v : Int32} (hj : j < 12) : hset (pu h o g) (o + j) b v = pu h o (hset g j b v) := blk_set hj
theorem pu_set0 {h : Hv} {o : Nat} {g : Hv} {b : Nat} {v : Int32} : hset (pu h o g) o b v = pu h o (hset g 0 b v) := blk_set0 (by decide)
theorem pu_pu {h : Hv} {o : Nat} {g g' : Hv} : pu (pu h o g) o g' = pu h o g' := blk_blk
theorem pu_vw {h : Hv} {o : Nat} : pu h o (vw h o) = h := blk_vw
theorem mu_at {h : Hv} {g : Hv} {j b : Nat} (hj : j < 18) : mu h g (360 + j) b = g j b := blk_at hj
theorem mu_0 {h : Hv} {g : Hv} {b : Nat} : mu h g 360 b = g 0 b := blk_0 (by decide)
theorem mu_set {h : Hv} {g : Hv} {j b : Nat} {v : Int32} (hj : j < 18) : hset (mu h g) (360 + j) b v = mu h (hset g j b v) := blk_set hj
theorem mu_set0 {h : Hv} {g : Hv} {b : Nat} {v : Int32} : hset (mu h g) 360 b v = mu h (hset g 0 b v) := blk_set0 (by decide)
theorem blk_cpy {h : Hv} {a o : Nat} {g : Hv} {j n : Nat} (ho : ∀ i, i < 12 → a ≠ o + i) (hj : j < 12) : hcpy (pu h o g) a (o + j) 0 0 n = pu h o (fun x y => if x = j ∧ y < n then h a y else g x y) := by
  funext x y
  unfold hcpy
  have hra : ∀ z, pu h o g a z = h a z := fun z => blk_out (by
    rcases Nat.lt_or_ge a o with q | q
    · exact Or.inl q
    · rcases Nat.lt_or_ge a (o + 12) with r | r
      · exact absurd (show a = o + (a - o) by omega) (ho (a - o) (by omega))
      · exact Or.inr r)
  by_cases hx : x = o + j
  · subst hx
    rw [pu_at hj, pu_at hj]
    by_cases hy : y < n
    · rw [if_pos ⟨rfl, Nat.zero_le y, by omega⟩, if_pos ⟨rfl, hy⟩, hra, Nat.zero_add, Nat.sub_zero]
    · rw [if_neg (fun q => hy (by omega)), if_neg (fun q => hy q.2)]
  · rw [if_neg (fun q => hx q.1)]
    unfold pu blk
    dsimp only
    by_cases hb : o ≤ x ∧ x < o + 12
    · rw [if_pos hb, if_pos hb, if_neg (fun q => hx (by omega))]
    · rw [if_neg hb, if_neg hb]
section Rules
variable {M : Meth} {d pc pc' : Nat} {L : List (Option Value)} {st : List Value} {h g : Hv} {P : Option Value → Hv → Prop}
theorem hh_getI {idx o kf : Nat} {fin : Bool} {ty : FieldType} (hd : Dc M.2.1 pc (.getfield idx) 3 pc') (hf : FL M.1.cls idx 2 kf fin ty) (ho : isHall o) (hk : kf < 5) (k : GdH M d pc' L (.int (g 0 kf) :: st) (pu h o g) P) : GdH M d pc L (.ref o :: st) (pu h o g) P := by
  refine h_getI hd hf (sp_hall ho) (by rcases (show kf = 0 ∨ kf = 1 ∨ kf = 2 ∨ kf = 3 ∨ kf = 4 by omega) with rfl | rfl | rfl | rfl | rfl <;> rfl) ?_
  rw [pu_0]
  exact k
theorem hh_putI {idx o kf : Nat} {v : Int32} (hd : Dc M.2.1 pc (.putfield idx) 3 pc') (hf : FL M.1.cls idx 2 kf false .int) (ho : isHall o) (hk : kf < 5) (k : GdH M d pc' L st (pu h o (hset g 0 kf v)) P) : GdH M d pc L (.int v :: .ref o :: st) (pu h o g) P := by
  refine h_putI hd hf (sp_hall ho) (by rcases (show kf = 0 ∨ kf = 1 ∨ kf = 2 ∨ kf = 3 ∨ kf = 4 by omega) with rfl | rfl | rfl | rfl | rfl <;> rfl) ?_
  rw [pu_set0]
  exact k
theorem hh_ald {o j n : Nat} {i : Int32} (hd : Dc M.2.1 pc .iaload 1 pc') (ho : SP[o + j]? = some (8, List.replicate n none)) (hj : j < 12) (hi : vp_in i n) (k : GdH M d pc' L (.int (g j i.toNatClampNeg) :: st) (pu h o g) P) : GdH M d pc L (.int i :: .ref (o + j) :: st) (pu h o g) P := by
  refine h_iald hd ho hi ?_
  rw [pu_at hj]
  exact k
theorem hh_ast {o j n : Nat} {i x : Int32} (hd : Dc M.2.1 pc .iastore 1 pc') (ho : SP[o + j]? = some (8, List.replicate n none)) (hj : j < 12) (hi : vp_in i n) (k : GdH M d pc' L st (pu h o (hset g j i.toNatClampNeg x)) P) : GdH M d pc L (.int x :: .int i :: .ref (o + j) :: st) (pu h o g) P := by
  refine h_iast hd ho hi ?_
  rw [pu_set hj]
  exact k
theorem mm_getI {idx kf : Nat} {fin : Bool} {ty : FieldType} {sl : List (Option Nat)} (hd : Dc M.2.1 pc (.getfield idx) 3 pc') (hf : FL M.1.cls idx 7 kf fin ty) (hs : SP[360]? = some (7, sl)) (hj : sl[kf]? = some none) (k : GdH M d pc' L (.int (g 0 kf) :: st) (mu h g) P) : GdH M d pc L (.ref 360 :: st) (mu h g) P := by
  refine h_getI hd hf hs hj ?_
  rw [mu_0]
  exact k
theorem mm_putI {idx kf : Nat} {v : Int32} {sl : List (Option Nat)} (hd : Dc M.2.1 pc (.putfield idx) 3 pc') (hf : FL M.1.cls idx 7 kf false .int) (hs : SP[360]? = some (7, sl)) (hj : sl[kf]? = some none) (k : GdH M d pc' L st (mu h (hset g 0 kf v)) P) : GdH M d pc L (.int v :: .ref 360 :: st) (mu h g) P := by
  refine h_putI hd hf hs hj ?_
  rw [mu_set0]
  exact k
theorem mm_ald {a j n : Nat} {i : Int32} (hd : Dc M.2.1 pc .iaload 1 pc') (ho : SP[a]? = some (8, List.replicate n none)) (ha : a = 360 + j) (hj : j < 18) (hi : vp_in i n) (k : GdH M d pc' L (.int (g j i.toNatClampNeg) :: st) (mu h g) P) : GdH M d pc L (.int i :: .ref a :: st) (mu h g) P := by
  subst ha
  refine h_iald hd ho hi ?_
  rw [mu_at hj]
  exact k
theorem mm_ast {a j n : Nat} {i x : Int32} (hd : Dc M.2.1 pc .iastore 1 pc') (ho : SP[a]? = some (8, List.replicate n none)) (ha : a = 360 + j) (hj : j < 18) (hi : vp_in i n) (k : GdH M d pc' L st (mu h (hset g j i.toNatClampNeg x)) P) : GdH M d pc L (.int x :: .int i :: .ref a :: st) (mu h g) P := by
  subst ha
  refine h_iast hd ho hi ?_
  rw [mu_set hj]
  exact k
theorem mm_zald {a j n : Nat} {i : Int32} (hd : Dc M.2.1 pc .baload 1 pc') (ho : SP[a]? = some (9, List.replicate n none)) (ha : a = 360 + j) (hj : j < 18) (hi : vp_in i n) (k : GdH M d pc' L (.int (g j i.toNatClampNeg) :: st) (mu h g) P) : GdH M d pc L (.int i :: .ref a :: st) (mu h g) P := by
  subst ha
  refine h_zald hd ho hi ?_
  rw [mu_at hj]
  exact k
theorem mm_zast {a j n : Nat} {i x : Int32} (hd : Dc M.2.1 pc .bastore 1 pc') (ho : SP[a]? = some (9, List.replicate n none)) (ha : a = 360 + j) (hj : j < 18) (hi : vp_in i n) (k : GdH M d pc' L st (mu h (hset g j i.toNatClampNeg (vp_nar .boolean x))) P) : GdH M d pc L (.int x :: .int i :: .ref a :: st) (mu h g) P := by
  subst ha
  refine h_zast hd ho hi ?_
  rw [mu_set hj]
  exact k
end Rules
/-! small rows -/
theorem in_nI {k n : Nat} (h : k < n) (hn : n < 2 ^ 31 := by decide) : vp_in (nI k) n := vp_in_nI h hn
theorem hs_at {g : Hv} {j b : Nat} {v : Int32} : hset g j b v j b = v := by
  unfold hset
  rw [if_pos ⟨rfl, rfl⟩]
theorem hs_ne {g : Hv} {j b x y : Nat} {v : Int32} (hn : ¬ (x = j ∧ y = b)) : hset g j b v x y = g x y := if_neg hn
theorem hs_j {g : Hv} {j b x y : Nat} {v : Int32} (hn : x ≠ j) : hset g j b v x y = g x y := if_neg (fun q => hn q.1)
theorem hs_b {g : Hv} {j b x y : Nat} {v : Int32} (hn : y ≠ b) : hset g j b v x y = g x y := if_neg (fun q => hn q.2)
theorem hs_hs {g : Hv} {j b : Nat} {v w : Int32} : hset (hset g j b v) j b w = hset g j b w := by
  funext x y
  unfold hset
  split <;> rfl
theorem hs_self {g : Hv} {j b : Nat} : hset g j b (g j b) = g := by
  funext x y
  unfold hset
  split
  · rename_i e
    rw [e.1, e.2]
  · rfl

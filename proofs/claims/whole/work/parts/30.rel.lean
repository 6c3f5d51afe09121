/-! THE RELATION between the class's cells (h, below 360) and the reference's (w) -/
def hv (h : Hv) (o : Nat) : Hv := fun j b => if j < 12 then h (o + j) b else 0
theorem hv_at {h : Hv} {o j b : Nat} (hj : j < 12) : hv h o j b = h (o + j) b := if_pos hj
theorem pu_hv {h : Hv} {o : Nat} : pu h o (hv h o) = h := by
  rw [pu_ext (g' := vw h o) (fun j b hj => hv_at hj)]
  exact pu_vw
theorem hv_pu {h g : Hv} {o j b : Nat} (hj : j < 12) : hv (pu h o g) o j b = g j b := by
  rw [hv_at hj]
  exact pu_at hj
theorem hv_eq {h h' : Hv} {o : Nat} (e : ∀ j b, j < 12 → h' (o + j) b = h (o + j) b) : hv h' o = hv h o := by
  funext j b
  unfold hv
  by_cases hj : j < 12
  · rw [if_pos hj, if_pos hj]; exact e j b hj
  · rw [if_neg hj, if_neg hj]
def Rp (M N : Nat) (g : Hv) (d s : Nat → Int32) : Prop :=
  (g 0 0 = s 1 ∧ g 0 1 = s 0 ∧ g 0 2 = d 0 ∧ g 0 3 = d 1 ∧ g 0 4 = s 2) ∧
  (∀ k, k < M → g 1 k = d (2 + k) ∧ g 2 k = d (7 + k) ∧ g 3 k = d (12 + k) ∧ g 4 k = s (3 + k) ∧ g 5 k = s (8 + k) ∧ g 6 k = s (13 + k)) ∧
  (∀ l, l < N → g 7 l = s (18 + l) ∧ g 8 l = s (24 + l) ∧ g 9 l = s (30 + l) ∧ (g 9 l = 2 → g 10 l = s (36 + l)))
theorem Rp.r0 {M N : Nat} {g w : Hv} {ja jb : Nat} (h : Rp M N g (w ja) (w jb)) : Rep0 M N g w ja jb := h
/-- a hall as it always is, held by the reference's rows d and s -/
def HS (M N : Nat) (g : Hv) (d s : Nat → Int32) : Prop := HI M N g ∧ Rp M N g d s ∧ ((∀ j, j < N → g 11 j = nI j) ∧ (∀ j, j < 6 → ∃ l, g 11 j = nI l)) ∧ (∀ k, M ≤ k → k < 5 → s (13 + k) = 0) ∧
  (∃ t, t ≤ 999 ∧ g 0 1 = nI t ∧ ∀ l, l < N → g 9 l = 2 → ∃ e, e ≤ t ∧ g 10 l = nI e)
theorem HS.i {M N : Nat} {g : Hv} {d s : Nat → Int32} (h : HS M N g d s) : HI M N g := h.1
theorem HS.r {M N : Nat} {g : Hv} {d s : Nat → Int32} (h : HS M N g d s) : Rp M N g d s := h.2.1
/-- the search through all orders -/
def scA (g : Hv) (M N n : Nat) : Nat → List Nat → Int32 × Int32 × (Nat → Int32) → Int32 × Int32 × (Nat → Int32)
  | 0, _, s => s
  | f + 1, l, s => match nextL N l with
    | none => s
    | some l' => scA g M N n f l' (trS g M N n 0 l' s)
def idL : List Nat := [0, 1, 2, 3, 4, 5]
def bestA (g : Hv) (M N n : Nat) : Int32 × Int32 × (Nat → Int32) := scA g M N n 719 idL (lateE g M N n idL, dryE g M N n idL, lf idL)
def RStat (h w : Hv) : Prop := h 0 9 = w 0 4
def RRow (h w : Hv) (r : Nat) : Prop := (h 2 r = -1 ∧ w 3 r = -1) ∨ ∃ a n, a ≤ 2 ∧ n ≤ 40 ∧ h 2 r = nI a ∧ w 2 r = nI a ∧ h 3 r = nI n ∧ w 3 r = nI n ∧ ∀ i, i < n → h (5 + r) i = w 1 (40 * r + i)
def RRows (h w : Hv) : Prop := ∀ r, r < 8 → RRow h w r
def RTape (h w : Hv) : Prop := h 13 6 = w 0 13 ∧ ∃ n, n ≤ 110 ∧ h 13 1 = nI n ∧ w 0 6 = nI n ∧ ∀ k, k < n → h 14 k = w 4 k ∧ ∃ b, b < 256 ∧ w 4 k = nI b
def RNone (h w : Hv) : Prop := (h 15 1 = 0 ∧ h 15 2 = 0 ∧ h 15 3 = 0) ∧ (w 7 0 = 0 ∧ w 7 1 = 0 ∧ w 8 0 = 0 ∧ ∀ k, k < 5 → w 8 (13 + k) = 0) ∧ (h 39 1 = 0 ∧ w 0 23 = 0) ∧ h 330 3 = 0
def RActs (M N : Nat) (h w : Hv) (i c : Nat) : Prop := h 39 1 = nI c ∧ w 0 23 = nI c ∧ c ≤ 24 ∧ ∀ j, j < c → HS M N (hv h (41 + 12 * ((i + 24 - j) % 24))) (w 7) (fun y => w 12 (42 * (c - 1 - j) + y))
def ROrd (M N : Nat) (h : Hv) : Prop := h 330 3 = 0 ∨ ∃ n, 1 ≤ n ∧ n ≤ 50 ∧ h 330 3 = nI n ∧ h 330 1 = (bestA (hv h 15) M N n).1 ∧ ∀ k, k < N → h 331 k = (bestA (hv h 15) M N n).2.2 k
def RHall (h w : Hv) : Prop := ∃ i, i < 24 ∧ h 39 2 = nI i ∧ (RNone h w ∨ ∃ M N c, HS M N (hv h 15) (w 7) (w 8) ∧ RActs M N h w i c ∧ ROrd M N h)
def RImg (h w : Hv) : Prop := ∀ k, k < 2 → (w 14 k = 0 ∧ h (336 + 12 * k) 2 = 0) ∨ (w 14 k = 1 ∧ ∃ M N, HS M N (hv h (336 + 12 * k)) (fun y => w 13 (59 * k + y)) (fun y => w 13 (59 * k + 17 + y)))
def RTrace (h w : Hv) : Prop := ∃ t, t ≤ 16 ∧ h 333 1 = nI t ∧ w 0 27 = nI t ∧ ∀ b, b < t → h 334 b = w 15 b
def RelP (h w : Hv) : Prop := RStat h w ∧ RRows h w ∧ RTape h w ∧ RHall h w ∧ RImg h w ∧ RTrace h w
def Rel (H : Hv) : Prop := ∃ h w, H = mu h w ∧ RelP h w
/-- what may change of the reference with nothing told -/
def FrR (w w' : Hv) : Prop := ∀ x y, x ≠ 5 → x ≠ 6 → x ≠ 9 → x ≠ 10 → x ≠ 11 → x ≠ 16 → x ≠ 17 → ¬ (x = 0 ∧ (y = 0 ∨ (7 ≤ y ∧ y ≤ 12) ∨ y = 21)) → w' x y = w x y
theorem FrR.rf {w : Hv} : FrR w w := fun _ _ _ _ _ _ _ _ _ _ => rfl
theorem FrR.tr {w w' w'' : Hv} (h1 : FrR w w') (h2 : FrR w' w'') : FrR w w'' := fun x y a b c d e f g i => (h2 x y a b c d e f g i).trans (h1 x y a b c d e f g i)
theorem FrS.fr {w w' : Hv} (h : FrS w w') : FrR w w' := fun x y _ _ c d e f g i => h x y c d e f g (fun q => i ⟨q.1, Or.inr (Or.inr q.2)⟩)
theorem fr_thrown {w : Hv} {v : Int32} : FrR w (hset w 0 0 v) := fun x y _ _ _ _ _ _ _ i => hs_ne (fun q => i ⟨q.1, Or.inl q.2⟩)
theorem FrR.row {w w' : Hv} (h : FrR w w') {x : Nat} (h0 : x ≠ 0) (h1 : x ≠ 5 ∧ x ≠ 6 ∧ x ≠ 9 ∧ x ≠ 10 ∧ x ≠ 11 ∧ x ≠ 16 ∧ x ≠ 17) : w' x = w x := by
  funext y
  exact h x y h1.1 h1.2.1 h1.2.2.1 h1.2.2.2.1 h1.2.2.2.2.1 h1.2.2.2.2.2.1 h1.2.2.2.2.2.2 (fun q => h0 q.1)
theorem FrR.fld {w w' : Hv} (h : FrR w w') {y : Nat} (h1 : ¬ (y = 0 ∨ (7 ≤ y ∧ y ≤ 12) ∨ y = 21)) : w' 0 y = w 0 y := h 0 y (by decide) (by decide) (by decide) (by decide) (by decide) (by decide) (by decide) (fun q => h1 q.2)
theorem RelP.fr {h w w' : Hv} (hR : RelP h w) (f : FrR w w') : RelP h w' := by
  have r1 := f.row (x := 1) (by decide) (by decide)
  have r2 := f.row (x := 2) (by decide) (by decide)
  have r3 := f.row (x := 3) (by decide) (by decide)
  have r4 := f.row (x := 4) (by decide) (by decide)
  have r7 := f.row (x := 7) (by decide) (by decide)
  have r8 := f.row (x := 8) (by decide) (by decide)
  have r12 := f.row (x := 12) (by decide) (by decide)
  have r13 := f.row (x := 13) (by decide) (by decide)
  have r14 := f.row (x := 14) (by decide) (by decide)
  have r15 := f.row (x := 15) (by decide) (by decide)
  have f4 := f.fld (y := 4) (by decide)
  have f6 := f.fld (y := 6) (by decide)
  have f13 := f.fld (y := 13) (by decide)
  have f23 := f.fld (y := 23) (by decide)
  have f27 := f.fld (y := 27) (by decide)
  unfold RelP RStat RRows RRow RTape RHall RNone RActs RImg RTrace at *
  rw [r1, r2, r3, r4, r7, r8, r12, r13, r14, r15, f4, f6, f13, f23, f27]
  exact hR
/-- what may change of the class with nothing told -/
def FrC (h h' : Hv) : Prop := ∀ x y, ¬ (27 ≤ x ∧ x ≤ 38) → x ≠ 332 → x ≠ 335 → ¬ (x = 13 ∧ 2 ≤ y ∧ y ≤ 5) → ¬ (x = 330 ∧ y = 2) → x < 360 → h' x y = h x y
theorem FrC.rf {h : Hv} : FrC h h := fun _ _ _ _ _ _ _ _ => rfl
theorem FrC.tr {h h' h'' : Hv} (h1 : FrC h h') (h2 : FrC h' h'') : FrC h h'' := fun x y a b c d e f => (h2 x y a b c d e f).trans (h1 x y a b c d e f)
theorem FrC.at {h h' : Hv} (f : FrC h h') {x y : Nat} (h1 : ¬ (27 ≤ x ∧ x ≤ 38) := by omega) (h2 : x ≠ 332 := by omega) (h3 : x ≠ 335 := by omega) (h4 : ¬ (x = 13 ∧ 2 ≤ y ∧ y ≤ 5) := by omega) (h5 : ¬ (x = 330 ∧ y = 2) := by omega) (h6 : x < 360 := by omega) : h' x y = h x y := f x y h1 h2 h3 h4 h5 h6
theorem RelP.fc {h h' w : Hv} (hR : RelP h w) (f : FrC h h') : RelP h' w := by
  obtain ⟨a, b, c, d, e, t⟩ := hR
  refine ⟨f.at.trans a, fun r hr => ?_, ?_, ?_, fun k hk => ?_, ?_⟩
  · rcases b r hr with q | ⟨a, n, q1, q2, q3, q4, q5, q6, q7⟩
    · exact Or.inl ⟨f.at.trans q.1, q.2⟩
    · exact Or.inr ⟨a, n, q1, q2, f.at.trans q3, q4, f.at.trans q5, q6, fun i hi => f.at.trans (q7 i hi)⟩
  · obtain ⟨c1, n, c2, c3, c4, c5⟩ := c
    exact ⟨f.at.trans c1, n, c2, f.at.trans c3, c4, fun k hk => ⟨f.at.trans (c5 k hk).1, (c5 k hk).2⟩⟩
  · obtain ⟨i, d1, d2, d3⟩ := d
    have e15 : hv h' 15 = hv h 15 := hv_eq (fun j b hj => f.at)
    refine ⟨i, d1, f.at.trans d2, ?_⟩
    rcases d3 with q | ⟨M, N, c, q1, ⟨q2, q3, q4, q5⟩, q6⟩
    · exact Or.inl ⟨⟨f.at.trans q.1.1, f.at.trans q.1.2.1, f.at.trans q.1.2.2⟩, q.2.1, ⟨f.at.trans q.2.2.1.1, q.2.2.1.2⟩, f.at.trans q.2.2.2⟩
    · refine Or.inr ⟨M, N, c, by rw [e15]; exact q1, ⟨f.at.trans q2, q3, q4, fun j hj => ?_⟩, ?_⟩
      · rw [hv_eq (h := h) (h' := h') (fun j' b hj' => f.at)]
        exact q5 j hj
      · rcases q6 with q | ⟨n, z1, z2, z3, z4, z5⟩
        · exact Or.inl (f.at.trans q)
        · refine Or.inr ⟨n, z1, z2, f.at.trans z3, ?_, fun k hk => ?_⟩
          · rw [e15]; exact f.at.trans z4
          · rw [e15]; exact f.at.trans (z5 k hk)
  · rcases e k hk with q | ⟨q1, M, N, q2⟩
    · exact Or.inl ⟨q.1, f.at.trans q.2⟩
    · refine Or.inr ⟨q1, M, N, ?_⟩
      rw [hv_eq (h := h) (h' := h') (fun j' b hj' => f.at)]
      exact q2
  · obtain ⟨n, t1, t2, t3, t4⟩ := t
    exact ⟨n, t1, f.at.trans t2, t3, fun b hb => f.at.trans (t4 b hb)⟩
/-! the class's cells under the reference's -/
theorem mu_low {h w : Hv} {a b : Nat} (ha : a < 360) : mu h w a b = h a b := blk_out (Or.inl ha)
theorem mu_hset {h w : Hv} {a b : Nat} {v : Int32} (ha : a < 360) : hset (mu h w) a b v = mu (hset h a b v) w := by
  funext x y
  unfold hset mu blk
  dsimp only
  by_cases h1 : x = a ∧ y = b
  · rw [if_pos h1, if_neg (by omega), if_pos h1]
  · rw [if_neg h1]
    by_cases h2 : 360 ≤ x ∧ x < 360 + 18
    · rw [if_pos h2, if_pos h2]
    · rw [if_neg h2, if_neg h2, if_neg h1]
theorem mu_pu {h w g : Hv} {o : Nat} (ho : o + 12 ≤ 360) : pu (mu h w) o g = mu (pu h o g) w := by
  funext x y
  unfold pu mu blk
  by_cases h1 : o ≤ x ∧ x < o + 12
  · rw [if_pos h1, if_neg (by omega), if_pos h1]
  · rw [if_neg h1]
    by_cases h2 : 360 ≤ x ∧ x < 360 + 18
    · rw [if_pos h2, if_pos h2]
    · rw [if_neg h2, if_neg h2, if_neg h1]
theorem mu_hv {h w : Hv} {o : Nat} (ho : o + 12 ≤ 360) : hv (mu h w) o = hv h o := hv_eq (fun j b hj => mu_low (by omega))
/-- an op of the class and of the reference: the same answer, the relation kept -/
def OPI (X Y : Meth) (d d' : Nat) (args : List Value) (H : Hv) : Prop := MtH X d (.ref 0 :: args) H (fun v h' => ∃ r, v = some (.int r) ∧ MtH Y d' (.ref 360 :: args) h' (fun v' h'' => v' = some (.int r) ∧ Rel h''))
/-! each part by itself under a change elsewhere -/
theorem RRows.cg {h h' w w' : Hv} (a : RRows h w) (eh : ∀ x y, 2 ≤ x → x ≤ 12 → h' x y = h x y) (e1 : w' 1 = w 1) (e2 : w' 2 = w 2) (e3 : w' 3 = w 3) : RRows h' w' := by
  intro r hr
  unfold RRow
  rw [e1, e2, e3]
  rcases a r hr with q | ⟨a, n, q1, q2, q3, q4, q5, q6, q7⟩
  · exact Or.inl ⟨(eh _ _ (by omega) (by omega)).trans q.1, q.2⟩
  · exact Or.inr ⟨a, n, q1, q2, (eh _ _ (by omega) (by omega)).trans q3, q4, (eh _ _ (by omega) (by omega)).trans q5, q6, fun i hi => (eh _ _ (by omega) (by omega)).trans (q7 i hi)⟩
theorem RTape.cg {h h' w w' : Hv} (a : RTape h w) (eh : ∀ x y, (x = 13 ∧ (y = 1 ∨ y = 6)) ∨ x = 14 → h' x y = h x y) (e1 : w' 0 6 = w 0 6) (e2 : w' 0 13 = w 0 13) (e3 : w' 4 = w 4) : RTape h' w' := by
  obtain ⟨c1, n, c2, c3, c4, c5⟩ := a
  unfold RTape
  rw [e1, e2, e3]
  exact ⟨(eh _ _ (by omega)).trans c1, n, c2, (eh _ _ (by omega)).trans c3, c4, fun k hk => ⟨(eh _ _ (by omega)).trans (c5 k hk).1, (c5 k hk).2⟩⟩
theorem RHall.cg {h h' w w' : Hv} (a : RHall h w) (eh : ∀ x y, ((15 ≤ x ∧ x ≤ 26) ∨ (39 ≤ x ∧ x ≤ 328) ∨ (x = 330 ∧ y ≠ 2) ∨ x = 331) → h' x y = h x y) (e7 : w' 7 = w 7) (e8 : w' 8 = w 8) (e12 : w' 12 = w 12) (e23 : w' 0 23 = w 0 23) : RHall h' w' := by
  obtain ⟨i, d1, d2, d3⟩ := a
  have e15 : hv h' 15 = hv h 15 := hv_eq (fun j b hj => eh _ _ (by omega))
  unfold RHall RNone RActs
  rw [e7, e8, e12, e23, e15]
  refine ⟨i, d1, (eh _ _ (by omega)).trans d2, ?_⟩
  rcases d3 with q | ⟨M, N, c, q1, ⟨q2, q3, q4, q5⟩, q6⟩
  · exact Or.inl ⟨⟨(eh _ _ (by omega)).trans q.1.1, (eh _ _ (by omega)).trans q.1.2.1, (eh _ _ (by omega)).trans q.1.2.2⟩, q.2.1, ⟨(eh _ _ (by omega)).trans q.2.2.1.1, q.2.2.1.2⟩, (eh _ _ (by omega)).trans q.2.2.2⟩
  · refine Or.inr ⟨M, N, c, q1, ⟨(eh _ _ (by omega)).trans q2, q3, q4, fun j hj => ?_⟩, ?_⟩
    · rw [hv_eq (h := h) (h' := h') (fun j' b hj' => eh _ _ (by omega))]
      exact q5 j hj
    · rcases q6 with q | ⟨n, z1, z2, z3, z4, z5⟩
      · exact Or.inl ((eh _ _ (by omega)).trans q)
      · refine Or.inr ⟨n, z1, z2, (eh _ _ (by omega)).trans z3, ?_, fun k hk => ?_⟩
        · rw [e15]; exact (eh _ _ (by omega)).trans z4
        · rw [e15]; exact (eh _ _ (by omega)).trans (z5 k hk)
theorem RImg.cg {h h' w w' : Hv} (a : RImg h w) (eh : ∀ x y, 336 ≤ x → x < 360 → h' x y = h x y) (e13 : w' 13 = w 13) (e14 : w' 14 = w 14) : RImg h' w' := by
  intro k hk
  rw [e13, e14]
  rcases a k hk with q | ⟨q1, M, N, q2⟩
  · exact Or.inl ⟨q.1, (eh _ _ (by omega) (by omega)).trans q.2⟩
  · refine Or.inr ⟨q1, M, N, ?_⟩
    rw [hv_eq (h := h) (h' := h') (fun j' b hj' => eh _ _ (by omega) (by omega))]
    exact q2
theorem RTrace.cg {h h' w w' : Hv} (a : RTrace h w) (eh : ∀ x y, (x = 333 ∧ y = 1) ∨ x = 334 → h' x y = h x y) (e1 : w' 0 27 = w 0 27) (e2 : w' 15 = w 15) : RTrace h' w' := by
  obtain ⟨n, t1, t2, t3, t4⟩ := a
  unfold RTrace
  rw [e1, e2]
  exact ⟨n, t1, (eh _ _ (by omega)).trans t2, t3, fun b hb => (eh _ _ (by omega)).trans (t4 b hb)⟩
/-- the rows and the status may be new, the rest stays -/
theorem RelP.rows {h h' w w' : Hv} (hR : RelP h w) (fh : ∀ x y, ¬ (x = 0 ∧ y = 9) → ¬ (2 ≤ x ∧ x ≤ 12) → h' x y = h x y) (fw : ∀ x y, ¬ (x = 0 ∧ (y = 0 ∨ y = 4)) → ¬ (1 ≤ x ∧ x ≤ 3) → w' x y = w x y) (s : RStat h' w') (r : RRows h' w') : RelP h' w' := by
  have fr : ∀ x, 4 ≤ x → w' x = w x := fun x hx => funext (fun y => fw x y (by omega) (by omega))
  exact ⟨s, r, hR.2.2.1.cg (fun x y q => fh x y (by omega) (by omega)) (fw _ _ (by omega) (by omega)) (fw _ _ (by omega) (by omega)) (fr _ (by omega)),
    hR.2.2.2.1.cg (fun x y q => fh x y (by omega) (by omega)) (fr _ (by omega)) (fr _ (by omega)) (fr _ (by omega)) (fw _ _ (by omega) (by omega)),
    hR.2.2.2.2.1.cg (fun x y q q' => fh x y (by omega) (by omega)) (fr _ (by omega)) (fr _ (by omega)),
    hR.2.2.2.2.2.cg (fun x y q => fh x y (by omega) (by omega)) (fw _ _ (by omega) (by omega)) (fr _ (by omega))⟩
theorem RelP.stat {h w : Hv} (hR : RelP h w) (v : Int32) : RelP (hset h 0 9 v) (hset (hset w 0 0 0) 0 4 v) := by
  refine hR.rows (fun x y a b => hs_ne a) (fun x y a b => ?_) ?_ ?_
  · rw [hs_ne (by omega), hs_ne (by omega)]
  · unfold RStat; rw [hs_at, hs_at]
  · exact hR.2.1.cg (fun x y a b => hs_j (by omega)) (by funext y; rw [hs_j (by decide), hs_j (by decide)]) (by funext y; rw [hs_j (by decide), hs_j (by decide)]) (by funext y; rw [hs_j (by decide), hs_j (by decide)])
theorem rng {x : Int32} {B : Nat} (h0 : ¬ x < 0) (h1 : ¬ nI B ≤ x) (hB : B < 2 ^ 31 := by decide) : ∃ r, r < B ∧ x = nI r := by
  have h0' : 0 ≤ x.toInt := by
    rw [Int32.lt_iff_toInt_lt] at h0
    simpa using h0
  refine ⟨x.toInt.toNat, ?_, ?_⟩
  · rw [Int32.le_iff_toInt_le, nI_toInt hB] at h1
    omega
  · apply Int32.toInt_inj.mp
    have := Int32.toInt_lt x
    rw [nI_toInt (by omega)]
    omega
theorem t_0 : (0 : Int32).toInt = 0 := by decide
theorem t_1 : (1 : Int32).toInt = 1 := by decide
theorem t_2 : (2 : Int32).toInt = 2 := by decide
theorem t_3 : (3 : Int32).toInt = 3 := by decide
theorem t_4 : (4 : Int32).toInt = 4 := by decide
theorem t_5 : (5 : Int32).toInt = 5 := by decide
theorem t_6 : (6 : Int32).toInt = 6 := by decide
theorem t_7 : (7 : Int32).toInt = 7 := by decide
theorem t_8 : (8 : Int32).toInt = 8 := by decide
theorem t_9 : (9 : Int32).toInt = 9 := by decide
theorem t_10 : (10 : Int32).toInt = 10 := by decide
theorem t_11 : (11 : Int32).toInt = 11 := by decide
theorem t_12 : (12 : Int32).toInt = 12 := by decide
theorem t_20 : (20 : Int32).toInt = 20 := by decide
theorem t_24 : (24 : Int32).toInt = 24 := by decide
theorem t_40 : (40 : Int32).toInt = 40 := by decide
theorem t_50 : (50 : Int32).toInt = 50 := by decide
theorem t_60 : (60 : Int32).toInt = 60 := by decide
theorem t_99 : (99 : Int32).toInt = 99 := by decide
theorem t_110 : (110 : Int32).toInt = 110 := by decide
theorem t_255 : (255 : Int32).toInt = 255 := by decide
theorem t_999 : (999 : Int32).toInt = 999 := by decide
theorem t_999999 : (999999 : Int32).toInt = 999999 := by decide
theorem t_m1 : (-1 : Int32).toInt = -1 := by decide

/-! THE CLAIM OUT OF ONE WALK OF THE LAW'S BODY. Your part is whole_start (and what it stands on); all else here is the same for every law, but numbers. -/
def R_law : String := "LaundryLoadsLaw"
def lw_P (b : Addr) (xs : List Int32) (args : Array Value) (s : State) : Prop := args = #[.ref b] ∧ s.IntsAt b xs ∧ xs.length ≤ 3072 ∧ (Jvm.Cond.and given_1 narrow_1).before args s = true
def lw_Q (_ : Array Value) (s : State) (o : Outcome) (t : State) : Prop := o = .returned (some (.int 1)) ∧ Framed s o t [] 600000 7302250
def lw_Z (below : List Frame) (a : Array Value) (s : State) : State → Prop := fun t => ∃ o, t.status = .running ∧ Ended t below o ∧ lw_Q a s o t
/-- the law's own end, with 1 on the stack, nothing written that was there before, its room as the claim has it -/
theorem lw_ret {p : Program} {l : Launch} {e : Env} {s : State} {m : MethodId} {below : List Frame} {meth : Method} {c : Code} {b : Nat} (hx : p.tables.exec = Jvm.exec) (hb : c.code = code) (hr : meth.sig.returnType = ret) (hlocks : meth.locks = false) {pc : Nat} {H : Heap} {ls : Array Slot} (hdg : decode code pc = .ok (.ireturn, 1)) : W p l e room_1 s m #[Value.ref b] below meth c H [] 600000 7302250 (lw_Z below #[Value.ref b] s) (F0 m pc ls [.int 1]) := by
  intro T hT X
  obtain ⟨fs, hret, hrun, hended, hW, hframe⟩ := X.leave (v := some (.int 1)) (hlocks := hlocks) (fun h => by rw [hr] at h; cases h)
  have hmeth' : T.vm.method? m = some meth := X.method'
  refine ⟨T.setFrames fs, ?_, .returned (some (.int 1)), hrun, hended, rfl, ⟨_, rfl⟩, hW, hframe⟩
  jvm_step X.here [X.here.top, hx, hb, hdg, hmeth', hr, ret, narrow_b1]
  (try refine ⟨rfl, ?_⟩); (try refine ⟨rfl, ?_⟩)
  first | (intro acts; rw [hret _ acts rfl rfl rfl]) | rw [hret _ _ rfl rfl rfl]
  exact Steps.refl _
/-- what holds at the law's entry: the machine, the code, the tables' words (any of lw_tbl by 'hts w (by decide +kernel)'), the script of L ints xs at the cell b, what the Statement gives of the start (any of its parts by flat_of_before) -/
def lw_At (p : Program) (s : State) (m : MethodId) (meth : Method) (c : Code) (b L : Nat) (xs : Nat → Int32) : Prop :=
  p.tables.exec = Jvm.exec ∧ c.code = code ∧ meth.sig.returnType = ret ∧ c.maxLocals = 4 ∧ s.vm.findClass R_law = some m.cls ∧ (∀ w ∈ lw_tbl, w.before #[Value.ref b] s = true) ∧ va_X b L xs s s.heap ∧ b < s.heap.size ∧ meth.locks = false ∧ (Jvm.Cond.and given_1 narrow_1).before #[Value.ref b] s = true
theorem st_tab0 {args : Array Value} {s : State} (hts : ∀ w ∈ lw_tbl, w.before args s = true) (hgv : (Jvm.Cond.and given_1 narrow_1).before args s = true) : ∃ t : Nat, va_Z RX6 (sN 0) "[I" (.ref t) (fun q => s.heap.size ≤ q) s s.heap ∧ va_T .int t 6 (fun k => .int (sT 0 k)) (fun q => s.heap.size ≤ q) s s.heap := by
  have hs := flat_of_before _ hgv
  have hA : ∀ a : Nat, a < s.heap.size → ¬ s.heap.size ≤ a := fun a h => by omega
  obtain ⟨t, h1, h2⟩ := va_Tof (args := args) (tm := (Term.static "LaundryLoads" "NEAREST" "[I")) (ty := .int) (N := 6) (f := fun k => .int (sT 0 k)) (A := fun q => s.heap.size ≤ q) (by decide) (hs (.arrayOf (Term.static "LaundryLoads" "NEAREST" "[I") .int) (by decide +kernel)) (va_eqt (z := 6) (hs (.eq (.length (Term.static "LaundryLoads" "NEAREST" "[I")) (.int 6)) (by decide +kernel))) (fun j hj => by
    match j, hj with
    | 0, _ => exact va_eqt (z := (-1)) (hs (.eq (.elem (Term.static "LaundryLoads" "NEAREST" "[I") (.int 0)) (.int (-1))) (by decide +kernel))
    | 1, _ => exact va_eqt (z := 0) (hs (.eq (.elem (Term.static "LaundryLoads" "NEAREST" "[I") (.int 1)) (.int 0)) (by decide +kernel))
    | 2, _ => exact va_eqt (z := 1) (hs (.eq (.elem (Term.static "LaundryLoads" "NEAREST" "[I") (.int 2)) (.int 1)) (by decide +kernel))
    | 3, _ => exact va_eqt (z := 1) (hs (.eq (.elem (Term.static "LaundryLoads" "NEAREST" "[I") (.int 3)) (.int 1)) (by decide +kernel))
    | 4, _ => exact va_eqt (z := 0) (hs (.eq (.elem (Term.static "LaundryLoads" "NEAREST" "[I") (.int 4)) (.int 0)) (by decide +kernel))
    | 5, _ => exact va_eqt (z := 4) (hs (.eq (.elem (Term.static "LaundryLoads" "NEAREST" "[I") (.int 5)) (.int 4)) (by decide +kernel))
    | j + 6, h => exact absurd h (by omega)) hA
  exact ⟨t, va_Zref (hts _ (List.mem_of_getElem? (i := 805) (by decide +kernel))) (hts _ (List.mem_of_getElem? (i := 76) (by decide +kernel))) h1 hA, h2⟩
theorem st_tab1 {args : Array Value} {s : State} (hts : ∀ w ∈ lw_tbl, w.before args s = true) (hgv : (Jvm.Cond.and given_1 narrow_1).before args s = true) : ∃ t : Nat, va_Z RX6 (sN 1) "[I" (.ref t) (fun q => s.heap.size ≤ q) s s.heap ∧ va_T .int t 6 (fun k => .int (sT 1 k)) (fun q => s.heap.size ≤ q) s s.heap := by
  have hs := flat_of_before _ hgv
  have hA : ∀ a : Nat, a < s.heap.size → ¬ s.heap.size ≤ a := fun a h => by omega
  obtain ⟨t, h1, h2⟩ := va_Tof (args := args) (tm := (Term.static "LaundryLoads" "SIZE_BODIES" "[I")) (ty := .int) (N := 6) (f := fun k => .int (sT 1 k)) (A := fun q => s.heap.size ≤ q) (by decide) (hs (.arrayOf (Term.static "LaundryLoads" "SIZE_BODIES" "[I") .int) (by decide +kernel)) (va_eqt (z := 6) (hs (.eq (.length (Term.static "LaundryLoads" "SIZE_BODIES" "[I")) (.int 6)) (by decide +kernel))) (fun j hj => by
    match j, hj with
    | 0, _ => exact va_eqt (z := 10) (hs (.eq (.elem (Term.static "LaundryLoads" "SIZE_BODIES" "[I") (.int 0)) (.int 10)) (by decide +kernel))
    | 1, _ => exact va_eqt (z := 11) (hs (.eq (.elem (Term.static "LaundryLoads" "SIZE_BODIES" "[I") (.int 1)) (.int 11)) (by decide +kernel))
    | 2, _ => exact va_eqt (z := 12) (hs (.eq (.elem (Term.static "LaundryLoads" "SIZE_BODIES" "[I") (.int 2)) (.int 12)) (by decide +kernel))
    | 3, _ => exact va_eqt (z := 0) (hs (.eq (.elem (Term.static "LaundryLoads" "SIZE_BODIES" "[I") (.int 3)) (.int 0)) (by decide +kernel))
    | 4, _ => exact va_eqt (z := 13) (hs (.eq (.elem (Term.static "LaundryLoads" "SIZE_BODIES" "[I") (.int 4)) (.int 13)) (by decide +kernel))
    | 5, _ => exact va_eqt (z := 14) (hs (.eq (.elem (Term.static "LaundryLoads" "SIZE_BODIES" "[I") (.int 5)) (.int 14)) (by decide +kernel))
    | j + 6, h => exact absurd h (by omega)) hA
  exact ⟨t, va_Zref (hts _ (List.mem_of_getElem? (i := 819) (by decide +kernel))) (hts _ (List.mem_of_getElem? (i := 76) (by decide +kernel))) h1 hA, h2⟩
theorem st_tab2 {args : Array Value} {s : State} (hts : ∀ w ∈ lw_tbl, w.before args s = true) (hgv : (Jvm.Cond.and given_1 narrow_1).before args s = true) : ∃ t : Nat, va_Z RX6 (sN 2) "[I" (.ref t) (fun q => s.heap.size ≤ q) s s.heap ∧ va_T .int t 6 (fun k => .int (sT 2 k)) (fun q => s.heap.size ≤ q) s s.heap := by
  have hs := flat_of_before _ hgv
  have hA : ∀ a : Nat, a < s.heap.size → ¬ s.heap.size ≤ a := fun a h => by omega
  obtain ⟨t, h1, h2⟩ := va_Tof (args := args) (tm := (Term.static "LaundryLoads" "MARK_BODIES" "[I")) (ty := .int) (N := 6) (f := fun k => .int (sT 2 k)) (A := fun q => s.heap.size ≤ q) (by decide) (hs (.arrayOf (Term.static "LaundryLoads" "MARK_BODIES" "[I") .int) (by decide +kernel)) (va_eqt (z := 6) (hs (.eq (.length (Term.static "LaundryLoads" "MARK_BODIES" "[I")) (.int 6)) (by decide +kernel))) (fun j hj => by
    match j, hj with
    | 0, _ => exact va_eqt (z := 20) (hs (.eq (.elem (Term.static "LaundryLoads" "MARK_BODIES" "[I") (.int 0)) (.int 20)) (by decide +kernel))
    | 1, _ => exact va_eqt (z := 21) (hs (.eq (.elem (Term.static "LaundryLoads" "MARK_BODIES" "[I") (.int 1)) (.int 21)) (by decide +kernel))
    | 2, _ => exact va_eqt (z := 24) (hs (.eq (.elem (Term.static "LaundryLoads" "MARK_BODIES" "[I") (.int 2)) (.int 24)) (by decide +kernel))
    | 3, _ => exact va_eqt (z := 22) (hs (.eq (.elem (Term.static "LaundryLoads" "MARK_BODIES" "[I") (.int 3)) (.int 22)) (by decide +kernel))
    | 4, _ => exact va_eqt (z := 23) (hs (.eq (.elem (Term.static "LaundryLoads" "MARK_BODIES" "[I") (.int 4)) (.int 23)) (by decide +kernel))
    | 5, _ => exact va_eqt (z := 0) (hs (.eq (.elem (Term.static "LaundryLoads" "MARK_BODIES" "[I") (.int 5)) (.int 0)) (by decide +kernel))
    | j + 6, h => exact absurd h (by omega)) hA
  exact ⟨t, va_Zref (hts _ (List.mem_of_getElem? (i := 821) (by decide +kernel))) (hts _ (List.mem_of_getElem? (i := 76) (by decide +kernel))) h1 hA, h2⟩
theorem st_ai {args : Array Value} {s : State} {ty : FieldType} (h : (Cond.arrayClass ty).before args s = true) (hty : ∀ cA, va_RA s cA ty = (s.vm.findClass ("[" ++ ty.toString) = some cA)) : ∃ cA, ArrOfT s cA ty ∧ va_RA s cA ty := by
  obtain ⟨c, k, comp, h1, h2, h3⟩ := Cond.arrayClass_spec h
  exact ⟨c, fun N z => ⟨(fun k h => by cases h), k, h2, comp, h3⟩, by rw [hty]; exact h1⟩
theorem st_ah {args : Array Value} {s : State} (h : (Cond.arrayOver (.object RX2)).before args s = true) : ∃ cA, ArrOfT s cA (.object RX2) ∧ va_RA s cA (.object RX2) := by
  obtain ⟨comp, c, k, h1, h2, h3, h4, h5⟩ := Cond.arrayOver_spec h
  exact ⟨c, fun N z => ⟨(fun k h => by cases h), k, h3, comp, h4⟩, k, comp, h3, h4, h1, h5⟩
theorem st_aa {s : State} (h : va_Nw (.arrayOver (.array .int)) s) : ∃ cA, ArrOfT s cA (.array .int) ∧ va_RA s cA (.array .int) := by
  unfold va_Nw Cond.before Cond.holds at h
  simp only [Cond.value, beq_iff_eq] at h
  cases hc : s.vm.findClass (FieldType.array .int).toString with
  | none => simp [hc] at h
  | some comp =>
    simp only [hc, Option.bind_some, Option.bind_eq_some_iff, Option.map_eq_some_iff] at h
    obtain ⟨c, hi, k, hk, hb⟩ := h
    cases hkk : k.kind with
    | array comp2 ty =>
      rw [hkk] at hb
      simp only [Bool.and_eq_true, decide_eq_true_eq] at hb
      obtain ⟨rfl, hf⟩ := hb
      exact ⟨c, fun N z => ⟨(fun k h => by cases h), k, hk, comp2, hkk⟩, hf⟩
    | _ => rw [hkk] at hb; cases hb
theorem st_nx {args : Array Value} {s : State} (hts : ∀ w ∈ lw_tbl, w.before args s = true) : Nx s := by
  refine ⟨fun w hw => ?_, va_AO.of (hts _ (List.mem_of_getElem? (i := 231) (by decide +kernel))), ?_⟩
  · simp only [NW, List.mem_cons, List.not_mem_nil, or_false] at hw
    rcases hw with rfl | rfl | rfl | rfl | rfl | rfl | rfl | rfl | rfl
    · exact va_tabs rfl rfl (hts _ (List.mem_of_getElem? (i := 97) (by decide +kernel)))
    · exact va_tabs rfl rfl (hts _ (List.mem_of_getElem? (i := 118) (by decide +kernel)))
    · exact va_tabs rfl rfl (hts _ (List.mem_of_getElem? (i := 149) (by decide +kernel)))
    · exact va_tabs rfl rfl (hts _ (List.mem_of_getElem? (i := 232) (by decide +kernel)))
    · exact va_tabs rfl rfl (hts _ (List.mem_of_getElem? (i := 246) (by decide +kernel)))
    · exact va_tabs rfl rfl (hts _ (List.mem_of_getElem? (i := 270) (by decide +kernel)))
    · exact va_tabs rfl rfl (hts _ (List.mem_of_getElem? (i := 817) (by decide +kernel)))
    · exact va_tabs rfl rfl (hts _ (List.mem_of_getElem? (i := 818) (by decide +kernel)))
    · exact va_tabs rfl rfl (hts _ (List.mem_of_getElem? (i := 820) (by decide +kernel)))
  · exact hts (.arrayOver (.array .int)) (List.mem_of_getElem? (i := 102) (by decide +kernel))
theorem st_K {args : Array Value} {s : State} (hts : ∀ w ∈ lw_tbl, w.before args s = true) : ∃ (D : va_G) (cy : Nat → ClassId), va_K D vwCl (tyl cy) s := by
  have hTT : ∀ w ∈ TT, w.before args s = true := fun w h => hts w (List.mem_filter.mp h).1
  obtain ⟨c0, i0, k0⟩ := u_known (C := RX0) (T := TX0) (N := 3) (n := 3) hTT ciw0 (hts _ (List.mem_of_getElem? (i := 225) (by decide +kernel)))
  obtain ⟨c1, i1, k1⟩ := u_known (C := RX1) (T := TX1) (N := 2) (n := 2) hTT ciw1 (hts _ (List.mem_of_getElem? (i := 269) (by decide +kernel)))
  obtain ⟨c2, i2, k2⟩ := u_known (C := RX2) (T := TX2) (N := 16) (n := 16) hTT ciw2 (hts _ (List.mem_of_getElem? (i := 148) (by decide +kernel)))
  obtain ⟨c3, i3, k3⟩ := u_known (C := RX3) (T := TX3) (N := 5) (n := 5) hTT ciw3 (hts _ (List.mem_of_getElem? (i := 245) (by decide +kernel)))
  obtain ⟨c4, i4, k4⟩ := u_known (C := RX4) (T := TX4) (N := 3) (n := 3) hTT ciw4 (hts _ (List.mem_of_getElem? (i := 96) (by decide +kernel)))
  obtain ⟨c5, i5, k5⟩ := u_known (C := RX5) (T := TX5) (N := 7) (n := 7) hTT ciw5 (hts _ (List.mem_of_getElem? (i := 117) (by decide +kernel)))
  obtain ⟨c6, i6, k6⟩ := u_known (C := RX6) (T := TX6) (N := 10) (n := 10) hTT ciw6 (hts _ (List.mem_of_getElem? (i := 88) (by decide +kernel)))
  obtain ⟨c7, i7, k7⟩ := u_known (C := RX7) (T := TX7) (N := 30) (n := 30) hTT ciw7 (hts _ (List.mem_of_getElem? (i := 847) (by decide +kernel)))
  obtain ⟨a8, b8, r8⟩ := st_ai (ty := .int) (hts _ (List.mem_of_getElem? (i := 115) (by decide +kernel))) (fun _ => rfl)
  obtain ⟨a9, b9, r9⟩ := st_ai (ty := .boolean) (hts _ (List.mem_of_getElem? (i := 943) (by decide +kernel))) (fun _ => rfl)
  obtain ⟨a10, b10, r10⟩ := st_ah (hts _ (List.mem_of_getElem? (i := 231) (by decide +kernel)))
  obtain ⟨a11, b11, r11⟩ := st_aa (st_nx hts).2.2
  refine ⟨(fun c => match c with | 0 => c0 | 1 => c1 | 2 => c2 | 3 => c3 | 4 => c4 | 5 => c5 | 6 => c6 | _ => c7, fun c => match c with | 0 => i0 | 1 => i1 | 2 => i2 | 3 => i3 | 4 => i4 | 5 => i5 | 6 => i6 | _ => i7), fun c => match c with | 8 => a8 | 9 => a9 | 10 => a10 | _ => a11, ?_, ?_⟩
  · intro c q hq
    match c, hq with
    | 0, hq => cases hq; exact k0
    | 1, hq => cases hq; exact k1
    | 2, hq => cases hq; exact k2
    | 3, hq => cases hq; exact k3
    | 4, hq => cases hq; exact k4
    | 5, hq => cases hq; exact k5
    | 6, hq => cases hq; exact k6
    | 7, hq => cases hq; exact k7
    | c + 8, hq => exact absurd (List.getElem?_eq_some_iff.mp hq).1 (by show ¬ c + 8 < 8; omega)
  · intro c q hq
    match c, hq with
    | 0, hq => cases hq; exact ⟨b8, r8⟩
    | 1, hq => cases hq; exact ⟨b9, r9⟩
    | 2, hq => cases hq; exact ⟨b10, r10⟩
    | 3, hq => cases hq; exact ⟨b11, r11⟩
    | c + 4, hq => exact absurd (List.getElem?_eq_some_iff.mp hq).1 (by show ¬ c + 4 < 4; omega)
theorem st_room {s : State} {pl : Platform} (h : s.hasRoom pl room_1 = true) : s.hasRoom pl (Rm 9 378 5803) = true := by
  unfold State.hasRoom at h ⊢
  rw [Bool.and_eq_true, Bool.and_eq_true, Bool.and_eq_true, Bool.and_eq_true] at h ⊢
  obtain ⟨⟨⟨⟨d1, d2⟩, d3⟩, d4⟩, a9⟩ := h
  have e1 := of_decide_eq_true d1
  obtain ⟨a2, a3, a4, a5, a6⟩ := of_decide_eq_true d2
  have e3 := of_decide_eq_true d3
  have e4 := of_decide_eq_true d4
  simp only [room_1] at e1 a2 a3 a4 a5 e3 e4
  refine ⟨⟨⟨⟨decide_eq_true ?_, decide_eq_true ⟨?_, ?_, ?_, ?_, a6⟩⟩, decide_eq_true ?_⟩, decide_eq_true ?_⟩, a9⟩ <;> simp only [Rm] <;> omega
theorem st_nil {D : va_G} {H : Heap} : va_P D vwCl [] H := fun k x hx => by cases hx
theorem whole_start {p : Program} {e : Env} {s : State} {m : MethodId} {below : List Frame} {meth : Method} {c : Code} (hRo : RowsI) (l : Launch) (hnm : meth.name = "law") {b L : Nat} {xs : Nat → Int32} (hL : L ≤ 3072) (C0 : lw_At p s m meth c b L xs) : W p l e room_1 s m #[Value.ref b] below meth c s.heap [] 0 0 (lw_Z below #[Value.ref b] s) (entryFrame m ([Value.ref b] : List Value).toArray 4) := by
  obtain ⟨hx, hb, hr, hml, hown, hts, hX, hbl, hlk, hgv⟩ := C0
  obtain ⟨t0, z0, y0⟩ := st_tab0 hts hgv
  obtain ⟨t1, z1, y1⟩ := st_tab1 hts hgv
  obtain ⟨t2, z2, y2⟩ := st_tab2 hts hgv
  obtain ⟨D, cy, hK⟩ := st_K hts
  have hSd : Sd s.heap.size (fun j => match j with | 0 => t0 | 1 => t1 | 2 => t2 | _ => b) s s.heap := fun j hj => by
    match j, hj with
    | 0, _ => exact ⟨z0, y0⟩
    | 1, _ => exact ⟨z1, y1⟩
    | 2, _ => exact ⟨z2, y2⟩
    | j + 3, h => exact absurd h (by omega)
  have C : Cx M_L p s m #[Value.ref b] meth c s.heap.size (fun j => match j with | 0 => t0 | 1 => t1 | 2 => t2 | _ => b) := ⟨hx, hb, hr, hml, hown, fun w h => hts w (List.mem_filter.mp h).1, hlk, hnm, hSd, st_nx hts, Nat.le_refl _⟩
  have hl := lv_entry [Value.ref b] (n := 4) (Nat.le_of_ble_eq_true rfl)
  rw [lg_entry_eq]
  intro T hT X
  obtain ⟨t, g1, oc, g2, g3, ⟨⟨v, hp', hv, hP, -⟩, -⟩, Lc, hF, hLc⟩ := law_all hRo hL l p e s m #[Value.ref b] below meth c s.heap.size (fun j => match j with | 0 => t0 | 1 => t1 | 2 => t2 | _ => b) D cy s.heap [] _ C ⟨hX, hbl, by show ¬ s.heap.size ≤ b; omega⟩ rfl ⟨by decide, st_nil, hK⟩ va_S.rf ⟨hl.1, rfl, hl.2.1, fun i v h => by
    match i, h with
    | 0, h =>
      cases h
      exact hl.2.2 (0, .ref b) List.mem_cons_self
    | 1, h => cases h
    | 2, h => cases h
    | 3, h => cases h
    | i + 4, h => cases h⟩ T hT { X with room := st_room X.room }
  subst hP
  refine ⟨t, g1, oc, g2, g3, hv, hF.1, hF.2.1, ?_⟩
  exact hF.2.2.weaken (fun y hy hlt => absurd hlt (Nat.not_lt.mpr (hLc y hy))) (by decide) (by decide)

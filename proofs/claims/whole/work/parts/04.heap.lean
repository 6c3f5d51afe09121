theorem ciw0 : ∀ w ∈ u_ws RX0 TX0 3, w ∈ TT := fun w hw => by
  obtain ⟨k, hk, rfl⟩ := List.mem_map.mp hw
  have hk := List.mem_range.mp hk
  match k, hk with
  | 0, _ => exact tt_of 237 (by decide +kernel) rfl
  | 1, _ => exact tt_of 239 (by decide +kernel) rfl
  | 2, _ => exact tt_of 241 (by decide +kernel) rfl
  | k + 3, h => exact absurd h (by omega)
theorem ciw1 : ∀ w ∈ u_ws RX1 TX1 2, w ∈ TT := fun w hw => by
  obtain ⟨k, hk, rfl⟩ := List.mem_map.mp hw
  have hk := List.mem_range.mp hk
  match k, hk with
  | 0, _ => exact tt_of 278 (by decide +kernel) rfl
  | 1, _ => exact tt_of 280 (by decide +kernel) rfl
  | k + 2, h => exact absurd h (by omega)
theorem ciw2 : ∀ w ∈ u_ws RX2 TX2 16, w ∈ TT := fun w hw => by
  obtain ⟨k, hk, rfl⟩ := List.mem_map.mp hw
  have hk := List.mem_range.mp hk
  match k, hk with
  | 0, _ => exact tt_of 191 (by decide +kernel) rfl
  | 1, _ => exact tt_of 193 (by decide +kernel) rfl
  | 2, _ => exact tt_of 195 (by decide +kernel) rfl
  | 3, _ => exact tt_of 197 (by decide +kernel) rfl
  | 4, _ => exact tt_of 199 (by decide +kernel) rfl
  | 5, _ => exact tt_of 201 (by decide +kernel) rfl
  | 6, _ => exact tt_of 203 (by decide +kernel) rfl
  | 7, _ => exact tt_of 205 (by decide +kernel) rfl
  | 8, _ => exact tt_of 207 (by decide +kernel) rfl
  | 9, _ => exact tt_of 209 (by decide +kernel) rfl
  | 10, _ => exact tt_of 211 (by decide +kernel) rfl
  | 11, _ => exact tt_of 213 (by decide +kernel) rfl
  | 12, _ => exact tt_of 215 (by decide +kernel) rfl
  | 13, _ => exact tt_of 217 (by decide +kernel) rfl
  | 14, _ => exact tt_of 219 (by decide +kernel) rfl
  | 15, _ => exact tt_of 221 (by decide +kernel) rfl
  | k + 16, h => exact absurd h (by omega)
theorem ciw3 : ∀ w ∈ u_ws RX3 TX3 5, w ∈ TT := fun w hw => by
  obtain ⟨k, hk, rfl⟩ := List.mem_map.mp hw
  have hk := List.mem_range.mp hk
  match k, hk with
  | 0, _ => exact tt_of 257 (by decide +kernel) rfl
  | 1, _ => exact tt_of 259 (by decide +kernel) rfl
  | 2, _ => exact tt_of 261 (by decide +kernel) rfl
  | 3, _ => exact tt_of 263 (by decide +kernel) rfl
  | 4, _ => exact tt_of 265 (by decide +kernel) rfl
  | k + 5, h => exact absurd h (by omega)
theorem ciw4 : ∀ w ∈ u_ws RX4 TX4 3, w ∈ TT := fun w hw => by
  obtain ⟨k, hk, rfl⟩ := List.mem_map.mp hw
  have hk := List.mem_range.mp hk
  match k, hk with
  | 0, _ => exact tt_of 108 (by decide +kernel) rfl
  | 1, _ => exact tt_of 110 (by decide +kernel) rfl
  | 2, _ => exact tt_of 112 (by decide +kernel) rfl
  | k + 3, h => exact absurd h (by omega)
theorem ciw5 : ∀ w ∈ u_ws RX5 TX5 7, w ∈ TT := fun w hw => by
  obtain ⟨k, hk, rfl⟩ := List.mem_map.mp hw
  have hk := List.mem_range.mp hk
  match k, hk with
  | 0, _ => exact tt_of 132 (by decide +kernel) rfl
  | 1, _ => exact tt_of 134 (by decide +kernel) rfl
  | 2, _ => exact tt_of 136 (by decide +kernel) rfl
  | 3, _ => exact tt_of 138 (by decide +kernel) rfl
  | 4, _ => exact tt_of 140 (by decide +kernel) rfl
  | 5, _ => exact tt_of 142 (by decide +kernel) rfl
  | 6, _ => exact tt_of 144 (by decide +kernel) rfl
  | k + 7, h => exact absurd h (by omega)
theorem ciw6 : ∀ w ∈ u_ws RX6 TX6 10, w ∈ TT := fun w hw => by
  obtain ⟨k, hk, rfl⟩ := List.mem_map.mp hw
  have hk := List.mem_range.mp hk
  match k, hk with
  | 0, _ => exact tt_of 293 (by decide +kernel) rfl
  | 1, _ => exact tt_of 295 (by decide +kernel) rfl
  | 2, _ => exact tt_of 297 (by decide +kernel) rfl
  | 3, _ => exact tt_of 299 (by decide +kernel) rfl
  | 4, _ => exact tt_of 301 (by decide +kernel) rfl
  | 5, _ => exact tt_of 303 (by decide +kernel) rfl
  | 6, _ => exact tt_of 305 (by decide +kernel) rfl
  | 7, _ => exact tt_of 307 (by decide +kernel) rfl
  | 8, _ => exact tt_of 309 (by decide +kernel) rfl
  | 9, _ => exact tt_of 311 (by decide +kernel) rfl
  | k + 10, h => exact absurd h (by omega)
theorem ciw7 : ∀ w ∈ u_ws RX7 TX7 30, w ∈ TT := fun w hw => by
  obtain ⟨k, hk, rfl⟩ := List.mem_map.mp hw
  have hk := List.mem_range.mp hk
  match k, hk with
  | 0, _ => exact tt_of 882 (by decide +kernel) rfl
  | 1, _ => exact tt_of 884 (by decide +kernel) rfl
  | 2, _ => exact tt_of 886 (by decide +kernel) rfl
  | 3, _ => exact tt_of 888 (by decide +kernel) rfl
  | 4, _ => exact tt_of 890 (by decide +kernel) rfl
  | 5, _ => exact tt_of 892 (by decide +kernel) rfl
  | 6, _ => exact tt_of 894 (by decide +kernel) rfl
  | 7, _ => exact tt_of 896 (by decide +kernel) rfl
  | 8, _ => exact tt_of 898 (by decide +kernel) rfl
  | 9, _ => exact tt_of 900 (by decide +kernel) rfl
  | 10, _ => exact tt_of 902 (by decide +kernel) rfl
  | 11, _ => exact tt_of 904 (by decide +kernel) rfl
  | 12, _ => exact tt_of 906 (by decide +kernel) rfl
  | 13, _ => exact tt_of 908 (by decide +kernel) rfl
  | 14, _ => exact tt_of 910 (by decide +kernel) rfl
  | 15, _ => exact tt_of 912 (by decide +kernel) rfl
  | 16, _ => exact tt_of 914 (by decide +kernel) rfl
  | 17, _ => exact tt_of 916 (by decide +kernel) rfl
  | 18, _ => exact tt_of 918 (by decide +kernel) rfl
  | 19, _ => exact tt_of 920 (by decide +kernel) rfl
  | 20, _ => exact tt_of 922 (by decide +kernel) rfl
  | 21, _ => exact tt_of 924 (by decide +kernel) rfl
  | 22, _ => exact tt_of 926 (by decide +kernel) rfl
  | 23, _ => exact tt_of 928 (by decide +kernel) rfl
  | 24, _ => exact tt_of 930 (by decide +kernel) rfl
  | 25, _ => exact tt_of 932 (by decide +kernel) rfl
  | 26, _ => exact tt_of 934 (by decide +kernel) rfl
  | 27, _ => exact tt_of 936 (by decide +kernel) rfl
  | 28, _ => exact tt_of 938 (by decide +kernel) rfl
  | 29, _ => exact tt_of 940 (by decide +kernel) rfl
  | k + 30, h => exact absurd h (by omega)
def CI (ci : Nat) (C : String) (T : u_T) (N : Nat) : Prop := vwCl[ci]? = some (C, T, N) ∧ ci < 8 ∧ (∀ w ∈ u_ws C T N, w ∈ TT) ∧ (∃ ty0 : Nat → FieldType, ∀ k, k < N → parseFieldDescriptor (T k).2.2.1 = some (ty0 k)) ∧ ∀ a, a < N → ∀ b, b < N → a ≠ b → (T a).2.1 ≠ (T b).2.1
theorem ci0 : CI 0 RX0 TX0 3 := ⟨rfl, by decide, ciw0, ⟨tyX0, tyX0_ok⟩, nmX0⟩
theorem ci1 : CI 1 RX1 TX1 2 := ⟨rfl, by decide, ciw1, ⟨tyX1, tyX1_ok⟩, nmX1⟩
theorem ci2 : CI 2 RX2 TX2 16 := ⟨rfl, by decide, ciw2, ⟨tyX2, tyX2_ok⟩, nmX2⟩
theorem ci3 : CI 3 RX3 TX3 5 := ⟨rfl, by decide, ciw3, ⟨tyX3, tyX3_ok⟩, nmX3⟩
theorem ci4 : CI 4 RX4 TX4 3 := ⟨rfl, by decide, ciw4, ⟨tyX4, tyX4_ok⟩, nmX4⟩
theorem ci5 : CI 5 RX5 TX5 7 := ⟨rfl, by decide, ciw5, ⟨tyX5, tyX5_ok⟩, nmX5⟩
theorem ci6 : CI 6 RX6 TX6 10 := ⟨rfl, by decide, ciw6, ⟨tyX6, tyX6_ok⟩, nmX6⟩
theorem ci7 : CI 7 RX7 TX7 30 := ⟨rfl, by decide, ciw7, ⟨tyX7, tyX7_ok⟩, nmX7⟩
/-- a field that an instruction of a class names: its class, its place, whether it is final, its type -/
def FL (own : String) (idx ci k : Nat) (fin : Bool) (ty : FieldType) : Prop := ∃ (C : String) (T : u_T) (N : Nat), CI ci C T N ∧ k < N ∧ (T k).1 = C ∧ Cond.fieldLink own idx C (T k).2.1 (T k).2.2.1 ∈ TT ∧ (T k).2.2.2 = fin ∧ parseFieldDescriptor (T k).2.2.1 = some ty
section Rules
variable {M : Meth} {d mc ms pc pc' : Nat} {L : List (Option Value)} {st : List Value} {hp : Hp} {nc ns : Nat} {P : Option Value → Hp → Prop}
theorem stk_ref {B : Nat} {S : Nat → Nat} {o : Nat} (h : o < 1000000) : cv B S (.ref o) = .ref (B + o) := by
  show Value.ref (ad B S o) = _
  rw [ad_lt h]
theorem ce_obj {B : Nat} {S : Nat → Nat} {cy : Nat → ClassId} {ci : Nat} {vs : List Value} (h : ci < 8) : ce B S cy (ci, vs) = .inr (ci, vs.map (cv B S)) := if_pos h
theorem ce_int {B : Nat} {S : Nat → Nat} {cy : Nat → ClassId} {t : Nat} {vs : List Value} (h : ¬ t < 8) (h2 : t < 10) : ce B S cy (t, vs) = .inl (cy t, vs.length, .inl (fun j => iv (vs.getD j .null))) := by
  unfold ce
  rw [if_neg h, if_pos h2]
theorem ce_ref {B : Nat} {S : Nat → Nat} {cy : Nat → ClassId} {t : Nat} {vs : List Value} (h : ¬ t < 10) : ce B S cy (t, vs) = .inl (cy t, vs.length, .inr (.inr (.inr (.inr (fun j => rv B S (vs.getD j .null)))))) := by
  unfold ce
  rw [if_neg (by omega), if_neg h]
theorem wd_lt {B : Nat} {S : Nat → Nat} {D : va_G} {cy : Nat → ClassId} {U : State} {H : Heap} {o : Nat} {q : Nat × List Value} (hW : Wd B S D cy hp U H) (ho : hp[o]? = some q) : o < 1000000 := Nat.lt_of_lt_of_le (List.getElem?_eq_some_iff.mp ho).1 hW.1
theorem g_get {idx ci kf o : Nat} {fin : Bool} {ty : FieldType} {vs : List Value} {v : Value} (hd : Dc M.2.1 pc (.getfield idx) 3 pc') (hf : FL M.1.cls idx ci kf fin ty) (ho : hp[o]? = some (ci, vs)) (hv : vs[kf]? = some v) (k : Gd M d mc ms pc' L (v :: st) hp nc ns P) : Gd M d mc ms pc L (.ref o :: st) hp nc ns P := by
  obtain ⟨h1, rfl⟩ := hd
  obtain ⟨CC, TC, N, ⟨hcl, hci, hin, -, -⟩, hk, hdec, hlk, -, -⟩ := hf
  refine fun l p e s m args below meth c B S D cy H locs ls C hZ hW hS hL => ?_
  rw [List.map_cons, stk_ref (wd_lt hW ho)]
  refine va_get (C := CC) (T := TC) (N := N) C.1 C.2.1 C.2.2.2.2.2.1 hin C.2.2.2.2.1 hW.2.2 hW.2.1 o ((wO_at ho).trans (by rw [ce_obj hci])) hcl kf hk (C.2.2.2.2.2.1 _ hlk) (fun x hx => by rw [← hdec]; exact hx) (v := cv B S v) (by rw [List.getElem?_map, hv]; rfl) h1 ?_
  exact k l p e s m args below meth c B S D cy H locs ls C hZ hW hS hL
theorem g_put {idx ci kf o : Nat} {ty : FieldType} {vs : List Value} {v : Value} (hd : Dc M.2.1 pc (.putfield idx) 3 pc') (hf : FL M.1.cls idx ci kf false ty) (ho : hp[o]? = some (ci, vs)) (hv : kf < vs.length) (hn : ∀ (B : Nat) (S : Nat → Nat), narrow ty (cv B S v) = cv B S v ∧ fits ty (cv B S v) = true) (k : Gd M d mc ms pc' L st (hp.set o (ci, vs.set kf v)) nc ns P) : Gd M d mc ms pc L (v :: .ref o :: st) hp nc ns P := by
  obtain ⟨h1, rfl⟩ := hd
  obtain ⟨CC, TC, N, ⟨hcl, hci, hin, ⟨ty0, hty⟩, hnm⟩, hk, hdec, hlk, hfin, hdd⟩ := hf
  refine fun l p e s m args below meth c B S D cy H locs ls C hZ hW hS hL => ?_
  rw [List.map_cons, List.map_cons, stk_ref (wd_lt hW ho)]
  refine va_put (C := CC) (T := TC) (N := N) C.1 C.2.1 C.2.2.2.2.2.1 hin ty0 hty hnm C.2.2.2.2.1 hW.2.2 hW.2.1 wO_D hS o ((wO_at ho).trans (by rw [ce_obj hci])) hcl kf hk (C.2.2.2.2.2.1 _ hlk) (fun x hx => by rw [← hdec]; exact hx) hfin hdd (hn B S).1 (hn B S).2 (by rw [List.length_map]; exact hv) h1 (fun H1 locs1 hP1 hD1 hS1 => ?_)
  have e0 : (wO B S cy hp).set o (B + o, .inr (ci, (vs.map (cv B S)).set kf (cv B S v))) = wO B S cy (hp.set o (ci, vs.set kf v)) := by
    rw [← wO_set, ce_obj hci, List.map_set]
  rw [e0] at hP1
  exact k l p e s m args below meth c B S D cy H1 locs1 ls C (by rw [List.length_set]; exact hZ) ⟨by rw [List.length_set]; exact hW.1, hP1, hW.2.2⟩ hS1 hL
end Rules

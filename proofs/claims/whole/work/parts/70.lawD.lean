/-! THE LAW: from its entry to the loop -/
def h0 : Hv := fun o _ => if o = 2 ∨ o = 363 then -1 else 0
def vv (i : Nat) (r : Option Nat) : Value := match r with
  | none => .int (if i = 2 ∨ i = 363 then -1 else 0)
  | some q => .ref q
def SPz (i : Nat) (l : List (Nat × List (Option Nat))) : Hp := match l with
  | [] => []
  | e :: l => (e.1, e.2.map (vv i)) :: SPz (i + 1) l
theorem spz_at : ∀ (l : List (Nat × List (Option Nat))) (b i : Nat), (SPz b l)[i]? = (l[i]?).map (fun e => (e.1, e.2.map (vv (b + i))))
  | [], b, i => by simp [SPz]
  | e :: l, b, 0 => by simp [SPz]
  | e :: l, b, i + 1 => by
    simp only [SPz, List.getElem?_cons_succ]
    rw [spz_at l (b + 1) i, show b + 1 + i = b + (i + 1) by omega]
theorem cn_h0 (i : Nat) (sl : List (Option Nat)) : cn h0 i sl = sl.map (vv i) := by
  apply List.ext_getElem?
  intro j
  unfold cn
  rw [List.getElem?_mapIdx, List.getElem?_map]
  congr 1
theorem mk_z : mk h0 = SPz 0 SP := by
  apply List.ext_getElem?
  intro i
  rw [spz_at, Nat.zero_add]
  unfold mk
  rw [List.getElem?_mapIdx]
  congr 1
  funext e
  rw [cn_h0]
theorem mk_h0 : Z1 ++ modelB 360 = mk h0 := by
  rw [mk_z]
  decide +kernel
theorem rel_h0 : Rel h0 := by
  refine ⟨h0, vw h0 360, ?_, ?_⟩
  · funext a b
    show h0 a b = if 360 ≤ a ∧ a < 360 + 18 then h0 (360 + (a - 360)) b else h0 a b
    by_cases h : 360 ≤ a ∧ a < 360 + 18
    · rw [if_pos h, show 360 + (a - 360) = a by omega]
    · rw [if_neg h]
  · refine ⟨by unfold RStat; decide +kernel, ?_, ⟨by decide +kernel, 0, by decide, by decide +kernel, by decide +kernel, fun k hk => absurd hk (by omega)⟩, ⟨0, by decide, by decide +kernel, Or.inl ?_⟩, ?_, ⟨0, by decide, by decide +kernel, by decide +kernel, fun b hb => absurd hb (by omega)⟩⟩
    · intro r hr
      refine Or.inl ?_
      match r, hr with
      | 0, _ => decide +kernel
      | 1, _ => decide +kernel
      | 2, _ => decide +kernel
      | 3, _ => decide +kernel
      | 4, _ => decide +kernel
      | 5, _ => decide +kernel
      | 6, _ => decide +kernel
      | 7, _ => decide +kernel
      | r + 8, h => exact absurd h (by omega)
    · unfold RNone
      decide +kernel
    · intro k hk
      refine Or.inl ?_
      match k, hk with
      | 0, _ => decide +kernel
      | 1, _ => decide +kernel
      | k + 2, h => exact absurd h (by omega)
section Rules
variable {sn : Nat} {xs : Nat → Int32} {M : Meth} {d mc ms pc pc' : Nat} {L : List (Option Value)} {st : List Value} {hp hp' : Hp} {nc ns nc' ns' o q : Nat} {P : Option Value → Hp → Prop}
theorem xh_new {idx ci N : Nat} {vs : List Value} (hd : Dc M.2.1 pc (.new idx) 3 pc') (hc : NL M.1.cls idx ci N vs) (hq : hp.length = q) (hb : hp ++ [(ci, vs)] = hp') (hn : q + 1 ≤ 1000000) (hnc : nc + 1 = nc') (hns : ns + N = ns') (h1c : nc' ≤ mc) (h1s : ns' ≤ ms) (k : Gx sn xs M d mc ms pc' L (.ref q :: st) hp' nc' ns' P) : Gx sn xs M d mc ms pc L st hp nc ns P := by
  subst hb hnc hns hq
  exact x_new hd hc (Nat.ble_eq.mpr hn) h1c h1s k
end Rules
theorem law_all (hRo : RowsI) {sn : Nat} {xs : Nat → Int32} (hsn : sn ≤ 3072) : Gx sn xs M_L 9 378 5803 0 [some (.ref 1000003), none, none, none] [] [] 0 0 (fun v _ => v = some (.int 1)) := by
  refine xh_new (q := 0) (nc' := 1) (ns' := 10) (hp' := [(6, bX6)]) d_L_law_0 nl_L_7 rfl rfl (by decide) rfl rfl (by decide) (by decide) ?_
  refine x_dup d_L_law_3 rfl ?_
  refine x_init (nc' := 360) (ns' := 2698) (hp2 := Z1) (cell := (6, bX6)) cl_L_9 d_L_law_4 (i_class hRo) rfl (by decide) (by decide) rfl rfl (by decide) (by decide) (by decide +kernel) ?_
  refine x_astore_n d_L_law_7 rfl rfl ?_
  refine xh_new (q := 360) (nc' := 361) (ns' := 2728) (hp' := Z1 ++ [(7, bX7)]) d_L_law_8 nl_L_10 Z1_len rfl (by decide) rfl rfl (by decide) (by decide) ?_
  refine x_dup d_L_law_11 rfl ?_
  refine x_init (nc' := 378) (ns' := 5803) (hp2 := Z1 ++ modelB 360) (cell := (7, bX7)) cl_L_12 d_L_law_12 (i_model Z1_len (by decide)) (by decide +kernel) (by decide) (by decide) rfl rfl (by decide) (by decide) (by decide +kernel) ?_
  refine x_astore_n d_L_law_15 rfl rfl ?_
  refine x_iconst (v := nI 0) d_L_law_16 (by decide +kernel) ?_
  refine x_istore_n d_L_law_17 rfl rfl ?_
  rw [mk_h0]
  exact law_loop hsn (sn + 1) 0 h0 (by omega) (by omega) rel_h0

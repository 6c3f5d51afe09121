/-! OPS: byTurns: the class -/
theorem tT1 : ∀ r, r < 32 → ∀ j, j < 5 → nI r &&& ((1 : Int32) <<< (nI j &&& 31) ^^^ (-1)) = nI (if r / 2 ^ j % 2 = 1 then r - 2 ^ j else r) := by decide +kernel
theorem tT2 : ∀ r, r < 32 → ∀ j, j < 5 → nI r ||| ((1 : Int32) <<< (nI j &&& 31)) = nI (if r / 2 ^ j % 2 = 1 then r else r + 2 ^ j) := by decide +kernel
theorem tT3 : ∀ M, M ≤ 5 → ∀ r, r < 2 ^ M → ∀ j, j < M → r / 2 ^ j % 2 = 1 → 2 ^ j ≤ r ∧ 0 < 2 ^ j := by decide +kernel
theorem tT4 : ∀ M, M ≤ 5 → ∀ r, r < 2 ^ M → ∀ j, j < M → ¬ r / 2 ^ j % 2 = 1 → r + 2 ^ j < 2 ^ M ∧ 0 < 2 ^ j := by decide +kernel
theorem tT5 : ∀ r, r < 32 → ∀ j, j < 5 → nI r ^^^ ((1 : Int32) <<< (nI j &&& 31)) = nI (if r / 2 ^ j % 2 = 1 then r - 2 ^ j else r + 2 ^ j) := by decide +kernel
/-- what a turn t makes of a set b: each machine below j looked at -/
def gnF (M t : Nat) (V : Nat → Nat) (b : Nat) : Nat → Nat
  | 0 => V b
  | m + 1 => if m < M ∧ (b / 2 ^ m % 2 = 1 ↔ t % 2 = 0) then (if t % 2 = 0 then min (gnF M t V b m) (V (b - 2 ^ m)) else max (gnF M t V b m) (V (b + 2 ^ m))) else gnF M t V b m
theorem gnF_lt {M t B : Nat} {V : Nat → Nat} {b : Nat} (hV : ∀ y, V y < B) : ∀ j, gnF M t V b j < B
  | 0 => hV b
  | m + 1 => by
    have ih := gnF_lt (M := M) (t := t) (b := b) hV m
    have h1 := hV (b - 2 ^ m)
    have h2 := hV (b + 2 ^ m)
    rw [gnF]
    split
    · split <;> omega
    · exact ih
def lev (M : Nat) (D : Nat → Nat) (n : Nat) : Nat → Nat → Nat
  | 0 => D
  | j + 1 => fun b => gnF M (n - 1 - j) (lev M D n j) b M
theorem lev_lt {M n B : Nat} {D : Nat → Nat} (hD : ∀ y, D y < B) : ∀ j y, lev M D n j y < B
  | 0, y => hD y
  | j + 1, y => gnF_lt (lev_lt hD j) M
theorem mn_n {a b : Nat} (ha : a < 2 ^ 31) (hb : b < 2 ^ 31) : (if nI b < nI a then nI b else nI a) = nI (min a b) := by
  by_cases h : b < a
  · rw [if_pos ((nI_ltI hb ha).mpr h), show min a b = b by omega]
  · rw [if_neg (fun z => h ((nI_ltI hb ha).mp z)), show min a b = a by omega]
theorem mx_n {a b : Nat} (ha : a < 2 ^ 31) (hb : b < 2 ^ 31) : (if nI a < nI b then nI b else nI a) = nI (max a b) := by
  by_cases h : a < b
  · rw [if_pos ((nI_ltI ha hb).mpr h), show max a b = b by omega]
  · rw [if_neg (fun z => h ((nI_ltI ha hb).mp z)), show max a b = a by omega]
theorem FrC.db {h h' : Hv} {b : Nat} {v : Int32} (f : FrC h h') : FrC h (hset h' 335 b v) := fun x y a c d e i j => (hs_j d).trans (f x y a c d e i j)
theorem FrC.p27 {h h' g : Hv} (f : FrC h h') : FrC h (pu h' 27 g) := fun x y a c d e i j => (pu_out (by omega)).trans (f x y a c d e i j)
theorem FrC.hv15 {h h' : Hv} (f : FrC h h') : hv h' 15 = hv h 15 := hv_eq (fun j b hj => f.at)
theorem lp_shA {h w : Hv} {M N : Nat} (hI : HI M N (hv h 15)) {V : Nat → Nat} (hV : ∀ y, V y < 100) {r : Nat} (hr : r < 2 ^ M) {P : Option Value → Hv → Prop} (kx : ∀ h', FrC h h' → (∀ y, y < r → h' 335 y = nI (V y)) → (∀ y, r < y → y < 2 ^ M → h' 335 y = nI (gnF M 0 V y M)) → h' 335 r = nI (gnF M 0 V r M) → GdH M_X6_weighShutting 1 62 [some (.ref 0), some (.int (nI r)), some (.int (nI M))] [] (mu h' w) P) : ∀ (m j : Nat), j + m = M → ∀ h', FrC h h' → (∀ y, y < r → h' 335 y = nI (V y)) → (∀ y, r < y → y < 2 ^ M → h' 335 y = nI (gnF M 0 V y M)) → h' 335 r = nI (gnF M 0 V r j) → GdH M_X6_weighShutting 1 18 [some (.ref 0), some (.int (nI r)), some (.int (nI j))] [] (mu h' w) P := by
  have hM5 := hI.hM5
  have h32 := pow5 hM5
  intro m
  induction m with
  | zero =>
    intro j hj h' hf h1 h2 h3
    have hj' : j = M := by omega
    subst hj'
    refine g_iload_n d_X6_weighShutting_18 rfl ?_
    refine g_aload_n d_X6_weighShutting_19 rfl ?_
    refine h_getR d_X6_weighShutting_20 fl_6_26 sp_L rfl ?_
    refine h_getV (v := nI j) d_X6_weighShutting_23 fl_6_132 (sp_hall hall_15) rfl ((mu_low (by decide)).trans (hf.at.trans ((hv_at (by decide)).symm.trans hI.hM))) ?_
    refine g_icmp_ge d_X6_weighShutting_26 (fun c26 => ?_) (fun c26 => absurd (nI_le (a := j) (b := j) (Nat.le_refl _) (by omega)) c26)
    exact kx h' hf h1 h2 h3
  | succ m ih =>
    intro j hj h' hf h1 h2 h3
    have hix : (if r / 2 ^ j % 2 = 1 then r - 2 ^ j else r) < 32 := by
      by_cases z : r / 2 ^ j % 2 = 1
      · rw [if_pos z]; exact Nat.lt_of_le_of_lt (Nat.sub_le _ _) (by omega)
      · rw [if_neg z]; omega
    have b1 := gnF_lt (M := M) (t := 0) (b := r) hV j
    have b2 : (if r / 2 ^ j % 2 = 1 then V (r - 2 ^ j) else (gnF M 0 V r j)) < 100 := by split; exact hV _; exact b1
    have hval : h' 335 (if r / 2 ^ j % 2 = 1 then r - 2 ^ j else r) = nI (if r / 2 ^ j % 2 = 1 then V (r - 2 ^ j) else (gnF M 0 V r j)) := by
      by_cases z : r / 2 ^ j % 2 = 1
      · rw [if_pos z, if_pos z]; have := tT3 M hM5 r hr j (by omega) z; exact h1 _ (by omega)
      · rw [if_neg z, if_neg z]; exact h3
    have hnew : min (gnF M 0 V r j) (if r / 2 ^ j % 2 = 1 then V (r - 2 ^ j) else (gnF M 0 V r j)) = gnF M 0 V r (j + 1) := by
      rw [gnF]
      by_cases z : r / 2 ^ j % 2 = 1
      · rw [if_pos z, if_pos ⟨by omega, by simp [z]⟩, if_pos rfl]
      · rw [if_neg z, if_neg (fun q => z (q.2.mpr rfl)), Nat.min_self]
    refine g_iload_n d_X6_weighShutting_18 rfl ?_
    refine g_aload_n d_X6_weighShutting_19 rfl ?_
    refine h_getR d_X6_weighShutting_20 fl_6_26 sp_L rfl ?_
    refine h_getV (v := nI M) d_X6_weighShutting_23 fl_6_132 (sp_hall hall_15) rfl ((mu_low (by decide)).trans (hf.at.trans ((hv_at (by decide)).symm.trans hI.hM))) ?_
    refine g_icmp_ge d_X6_weighShutting_26 (fun c26 => absurd c26 (nI_ge (a := j) (b := M) (by omega) (by omega))) (fun c26 => ?_)
    refine g_aload_n d_X6_weighShutting_29 rfl ?_
    refine h_getR d_X6_weighShutting_30 fl_6_58 sp_L rfl ?_
    refine g_iload_n d_X6_weighShutting_33 rfl ?_
    refine g_aload_n d_X6_weighShutting_34 rfl ?_
    refine h_getR d_X6_weighShutting_35 fl_6_58 sp_L rfl ?_
    refine g_iload_n d_X6_weighShutting_38 rfl ?_
    refine h_aldV (k := r) (v := nI (gnF M 0 V r j)) d_X6_weighShutting_39 sp_dry rfl (by omega) (by decide) ((mu_low (by decide)).trans h3) ?_
    refine g_aload_n d_X6_weighShutting_40 rfl ?_
    refine h_getR d_X6_weighShutting_41 fl_6_58 sp_L rfl ?_
    refine g_iload_n d_X6_weighShutting_44 rfl ?_
    refine g_iconst d_X6_weighShutting_45 ik_1 ?_
    refine g_iload_n d_X6_weighShutting_46 rfl ?_
    refine g_ishl d_X6_weighShutting_47 ?_
    refine g_iconst d_X6_weighShutting_48 ik_m1 ?_
    refine g_ixor d_X6_weighShutting_49 ?_
    refine g_iand d_X6_weighShutting_50 ?_
    refine h_aldV (k := (if r / 2 ^ j % 2 = 1 then r - 2 ^ j else r)) (v := nI (if r / 2 ^ j % 2 = 1 then V (r - 2 ^ j) else (gnF M 0 V r j))) d_X6_weighShutting_51 sp_dry (tT1 r (by omega) j (by omega)) (by exact hix) (by decide) ((mu_low (by decide)).trans hval) ?_
    refine g_mmin d_X6_weighShutting_52 mx_6_295 (Nat.le_of_ble_eq_true rfl) (by decide) ?_
    rw [mn_n (by omega) (by omega), hnew]
    refine h_astE (k := r) d_X6_weighShutting_55 sp_dry rfl (by omega) (by decide) ?_
    refine w_iinc (L' := [_, _, _]) d_X6_weighShutting_56 ik_1 rfl rfl rfl rfl ?_
    refine g_goto d_X6_weighShutting_59 ?_
    rw [nI_1, mu_hset (by decide)]
    exact ih (j + 1) (by omega) _ hf.db (fun y hy => by rw [hs_b (by omega)]; exact h1 y hy) (fun y hy hy2 => by rw [hs_b (by omega)]; exact h2 y hy hy2) hs_at
theorem lp_opA {h w : Hv} {M N : Nat} (hI : HI M N (hv h 15)) {V : Nat → Nat} (hV : ∀ y, V y < 100) {r : Nat} (hr : r < 2 ^ M) {P : Option Value → Hv → Prop} (kx : ∀ h', FrC h h' → (∀ y, y < r → h' 335 y = nI (gnF M 1 V y M)) → (∀ y, r < y → y < 2 ^ M → h' 335 y = nI (V y)) → h' 335 r = nI (gnF M 1 V r M) → GdH M_X6_weighOpening 1 59 [some (.ref 0), some (.int (nI r)), some (.int (nI M))] [] (mu h' w) P) : ∀ (m j : Nat), j + m = M → ∀ h', FrC h h' → (∀ y, y < r → h' 335 y = nI (gnF M 1 V y M)) → (∀ y, r < y → y < 2 ^ M → h' 335 y = nI (V y)) → h' 335 r = nI (gnF M 1 V r j) → GdH M_X6_weighOpening 1 17 [some (.ref 0), some (.int (nI r)), some (.int (nI j))] [] (mu h' w) P := by
  have hM5 := hI.hM5
  have h32 := pow5 hM5
  intro m
  induction m with
  | zero =>
    intro j hj h' hf h1 h2 h3
    have hj' : j = M := by omega
    subst hj'
    refine g_iload_n d_X6_weighOpening_17 rfl ?_
    refine g_aload_n d_X6_weighOpening_18 rfl ?_
    refine h_getR d_X6_weighOpening_19 fl_6_26 sp_L rfl ?_
    refine h_getV (v := nI j) d_X6_weighOpening_22 fl_6_132 (sp_hall hall_15) rfl ((mu_low (by decide)).trans (hf.at.trans ((hv_at (by decide)).symm.trans hI.hM))) ?_
    refine g_icmp_ge d_X6_weighOpening_25 (fun c25 => ?_) (fun c25 => absurd (nI_le (a := j) (b := j) (Nat.le_refl _) (by omega)) c25)
    exact kx h' hf h1 h2 h3
  | succ m ih =>
    intro j hj h' hf h1 h2 h3
    have hix : (if r / 2 ^ j % 2 = 1 then r else r + 2 ^ j) < 32 := by
      by_cases z : r / 2 ^ j % 2 = 1
      · rw [if_pos z]; omega
      · rw [if_neg z]; have := tT4 M hM5 r hr j (by omega) z; omega
    have b1 := gnF_lt (M := M) (t := 1) (b := r) hV j
    have b2 : (if r / 2 ^ j % 2 = 1 then (gnF M 1 V r j) else V (r + 2 ^ j)) < 100 := by split; exact b1; exact hV _
    have hval : h' 335 (if r / 2 ^ j % 2 = 1 then r else r + 2 ^ j) = nI (if r / 2 ^ j % 2 = 1 then (gnF M 1 V r j) else V (r + 2 ^ j)) := by
      by_cases z : r / 2 ^ j % 2 = 1
      · rw [if_pos z, if_pos z]; exact h3
      · rw [if_neg z, if_neg z]; have := tT4 M hM5 r hr j (by omega) z; exact h2 _ (by omega) this.1
    have hnew : max (gnF M 1 V r j) (if r / 2 ^ j % 2 = 1 then (gnF M 1 V r j) else V (r + 2 ^ j)) = gnF M 1 V r (j + 1) := by
      rw [gnF]
      by_cases z : r / 2 ^ j % 2 = 1
      · rw [if_pos z, if_neg (fun q => by have := q.2.mp z; omega), Nat.max_self]
      · rw [if_neg z, if_pos ⟨by omega, by simp [z]⟩, if_neg (by decide)]
    refine g_iload_n d_X6_weighOpening_17 rfl ?_
    refine g_aload_n d_X6_weighOpening_18 rfl ?_
    refine h_getR d_X6_weighOpening_19 fl_6_26 sp_L rfl ?_
    refine h_getV (v := nI M) d_X6_weighOpening_22 fl_6_132 (sp_hall hall_15) rfl ((mu_low (by decide)).trans (hf.at.trans ((hv_at (by decide)).symm.trans hI.hM))) ?_
    refine g_icmp_ge d_X6_weighOpening_25 (fun c25 => absurd c25 (nI_ge (a := j) (b := M) (by omega) (by omega))) (fun c25 => ?_)
    refine g_aload_n d_X6_weighOpening_28 rfl ?_
    refine h_getR d_X6_weighOpening_29 fl_6_58 sp_L rfl ?_
    refine g_iload_n d_X6_weighOpening_32 rfl ?_
    refine g_aload_n d_X6_weighOpening_33 rfl ?_
    refine h_getR d_X6_weighOpening_34 fl_6_58 sp_L rfl ?_
    refine g_iload_n d_X6_weighOpening_37 rfl ?_
    refine h_aldV (k := r) (v := nI (gnF M 1 V r j)) d_X6_weighOpening_38 sp_dry rfl (by omega) (by decide) ((mu_low (by decide)).trans h3) ?_
    refine g_aload_n d_X6_weighOpening_39 rfl ?_
    refine h_getR d_X6_weighOpening_40 fl_6_58 sp_L rfl ?_
    refine g_iload_n d_X6_weighOpening_43 rfl ?_
    refine g_iconst d_X6_weighOpening_44 ik_1 ?_
    refine g_iload_n d_X6_weighOpening_45 rfl ?_
    refine g_ishl d_X6_weighOpening_46 ?_
    refine g_ior d_X6_weighOpening_47 ?_
    refine h_aldV (k := (if r / 2 ^ j % 2 = 1 then r else r + 2 ^ j)) (v := nI (if r / 2 ^ j % 2 = 1 then (gnF M 1 V r j) else V (r + 2 ^ j))) d_X6_weighOpening_48 sp_dry (tT2 r (by omega) j (by omega)) (by exact hix) (by decide) ((mu_low (by decide)).trans hval) ?_
    refine g_mmax d_X6_weighOpening_49 mx_6_300 (Nat.le_of_ble_eq_true rfl) (by decide) ?_
    rw [mx_n (by omega) (by omega), hnew]
    refine h_astE (k := r) d_X6_weighOpening_52 sp_dry rfl (by omega) (by decide) ?_
    refine w_iinc (L' := [_, _, _]) d_X6_weighOpening_53 ik_1 rfl rfl rfl rfl ?_
    refine g_goto d_X6_weighOpening_56 ?_
    rw [nI_1, mu_hset (by decide)]
    exact ih (j + 1) (by omega) _ hf.db (fun y hy => by rw [hs_b (by omega)]; exact h1 y hy) (fun y hy hy2 => by rw [hs_b (by omega)]; exact h2 y hy hy2) hs_at
theorem lp_shB {h w : Hv} {M N : Nat} (hI : HI M N (hv h 15)) {V : Nat → Nat} (hV : ∀ y, V y < 100) : ∀ (r : Nat), r ≤ 2 ^ M → ∀ (h' : Hv) (y2 : Option Value), FrC h h' → (∀ y, y < r → h' 335 y = nI (V y)) → (∀ y, r ≤ y → y < 2 ^ M → h' 335 y = nI (gnF M 0 V y M)) → GdH M_X6_weighShutting 1 12 [some (.ref 0), some (.int (nI r - 1)), y2] [] (mu h' w) (fun v' H' => v' = none ∧ ∃ h2, H' = mu h2 w ∧ FrC h h2 ∧ ∀ y, y < 2 ^ M → h2 335 y = nI (gnF M 0 V y M)) := by
  have h32 := pow5 hI.hM5
  intro r
  induction r with
  | zero =>
    intro hr h' y2 hf h1 h2
    refine g_iload_n d_X6_weighShutting_12 rfl ?_
    refine g_if_lt d_X6_weighShutting_13 (fun c13 => ?_) (fun c13 => absurd (show nI 0 - 1 < 0 by decide) c13)
    refine h_vret d_X6_weighShutting_68 rfl ?_
    exact ⟨rfl, h', rfl, hf, fun y hy => h2 y (by omega) hy⟩
  | succ r ih =>
    intro hr h' y2 hf h1 h2
    rw [nI_pred]
    refine g_iload_n d_X6_weighShutting_12 rfl ?_
    refine g_if_lt d_X6_weighShutting_13 (fun c13 => absurd c13 (nI_pos (by omega))) (fun c13 => ?_)
    refine g_iconst d_X6_weighShutting_16 ik_0 ?_
    refine w_istore_n (L' := [_, _, _]) d_X6_weighShutting_17 rfl rfl rfl ?_
    refine lp_shA (r := r) hI hV (by omega) (fun h2' f2 g1 g2 g3 => ?_) M 0 (by omega) h' hf (fun y hy => h1 y (by omega)) (fun y hy hy2 => h2 y (by omega) hy2) (h1 r (by omega))
    refine w_iinc (L' := [_, _, _]) d_X6_weighShutting_62 ik_m1 rfl rfl rfl rfl ?_
    refine g_goto d_X6_weighShutting_65 ?_
    rw [show nI r + (-1) = nI r - 1 from (Int32.sub_eq_add_neg _ _).symm]
    refine ih (by omega) h2' _ f2 g1 (fun y hy hy2 => ?_)
    by_cases e : y = r
    · subst e; exact g3
    · exact g2 y (by omega) hy2
theorem lp_opB {h w : Hv} {M N : Nat} (hI : HI M N (hv h 15)) {V : Nat → Nat} (hV : ∀ y, V y < 100) : ∀ (m r : Nat), r + m = 2 ^ M → ∀ (h' : Hv) (y2 : Option Value), FrC h h' → (∀ y, y < r → h' 335 y = nI (gnF M 1 V y M)) → (∀ y, r ≤ y → y < 2 ^ M → h' 335 y = nI (V y)) → GdH M_X6_weighOpening 1 2 [some (.ref 0), some (.int (nI r)), y2] [] (mu h' w) (fun v' H' => v' = none ∧ ∃ h2, H' = mu h2 w ∧ FrC h h2 ∧ ∀ y, y < 2 ^ M → h2 335 y = nI (gnF M 1 V y M)) := by
  have hM5 := hI.hM5
  have h32 := pow5 hI.hM5
  intro m
  induction m with
  | zero =>
    intro r hr h' y2 hf h1 h2
    refine g_iload_n d_X6_weighOpening_2 rfl ?_
    refine g_iconst d_X6_weighOpening_3 ik_1 ?_
    refine g_aload_n d_X6_weighOpening_4 rfl ?_
    refine h_getR d_X6_weighOpening_5 fl_6_26 sp_L rfl ?_
    refine h_getV (v := nI M) d_X6_weighOpening_8 fl_6_132 (sp_hall hall_15) rfl ((mu_low (by decide)).trans (hf.at.trans ((hv_at (by decide)).symm.trans hI.hM))) ?_
    refine g_ishl d_X6_weighOpening_11 ?_
    rw [sh1 M (by omega)]
    refine g_icmp_ge d_X6_weighOpening_12 (fun c12 => ?_) (fun c12 => absurd (nI_le (a := 2 ^ M) (b := r) (by omega) (by omega)) c12)
    refine h_vret d_X6_weighOpening_65 rfl ?_
    exact ⟨rfl, h', rfl, hf, fun y hy => h1 y (by omega)⟩
  | succ m ih =>
    intro r hr h' y2 hf h1 h2
    refine g_iload_n d_X6_weighOpening_2 rfl ?_
    refine g_iconst d_X6_weighOpening_3 ik_1 ?_
    refine g_aload_n d_X6_weighOpening_4 rfl ?_
    refine h_getR d_X6_weighOpening_5 fl_6_26 sp_L rfl ?_
    refine h_getV (v := nI M) d_X6_weighOpening_8 fl_6_132 (sp_hall hall_15) rfl ((mu_low (by decide)).trans (hf.at.trans ((hv_at (by decide)).symm.trans hI.hM))) ?_
    refine g_ishl d_X6_weighOpening_11 ?_
    rw [sh1 M (by omega)]
    refine g_icmp_ge d_X6_weighOpening_12 (fun c12 => absurd c12 (nI_ge (a := r) (b := 2 ^ M) (by omega) (by omega))) (fun c12 => ?_)
    refine g_iconst d_X6_weighOpening_15 ik_0 ?_
    refine w_istore_n (L' := [_, _, _]) d_X6_weighOpening_16 rfl rfl rfl ?_
    refine lp_opA (r := r) hI hV (by omega) (fun h2' f2 g1 g2 g3 => ?_) M 0 (by omega) h' hf h1 (fun y hy hy2 => h2 y (by omega) hy2) (h2 r (by omega) (by omega))
    refine w_iinc (L' := [_, _, _]) d_X6_weighOpening_59 ik_1 rfl rfl rfl rfl ?_
    refine g_goto d_X6_weighOpening_62 ?_
    rw [nI_1]
    refine ih (r + 1) (by omega) h2' _ f2 (fun y hy => ?_) (fun y hy hy2 => g2 y (by omega) hy2)
    by_cases e : y = r
    · subst e; exact g3
    · exact g1 y (by omega)
theorem m6_weighShutting {h w : Hv} {M N : Nat} (hI : HI M N (hv h 15)) {V : Nat → Nat} (hV : ∀ y, V y < 100) {h' : Hv} (hf : FrC h h') (h1 : ∀ y, y < 2 ^ M → h' 335 y = nI (V y)) : MtH M_X6_weighShutting 1 [.ref 0] (mu h' w) ((fun v' H' => v' = none ∧ ∃ h2, H' = mu h2 w ∧ FrC h h2 ∧ ∀ y, y < 2 ^ M → h2 335 y = nI (gnF M 0 V y M))) := by
  have h32 := pow5 hI.hM5
  have hM5 := hI.hM5
  refine MtH.of [some (.ref 0), none, none] pl_X6 rfl rfl ?_
  refine g_iconst d_X6_weighShutting_0 ik_1 ?_
  refine g_aload_n d_X6_weighShutting_1 rfl ?_
  refine h_getR d_X6_weighShutting_2 fl_6_26 sp_L rfl ?_
  refine h_getV (v := nI M) d_X6_weighShutting_5 fl_6_132 (sp_hall hall_15) rfl ((mu_low (by decide)).trans (hf.at.trans ((hv_at (by decide)).symm.trans hI.hM))) ?_
  refine g_ishl d_X6_weighShutting_8 ?_
  rw [sh1 M (by omega)]
  refine g_iconst d_X6_weighShutting_9 ik_1 ?_
  refine g_isub d_X6_weighShutting_10 ?_
  refine w_istore_n (L' := [_, _, _]) d_X6_weighShutting_11 rfl rfl rfl ?_
  exact lp_shB hI hV (2 ^ M) (Nat.le_refl _) h' _ hf h1 (fun y hy hy2 => absurd hy (by omega))
theorem m6_weighOpening {h w : Hv} {M N : Nat} (hI : HI M N (hv h 15)) {V : Nat → Nat} (hV : ∀ y, V y < 100) {h' : Hv} (hf : FrC h h') (h1 : ∀ y, y < 2 ^ M → h' 335 y = nI (V y)) : MtH M_X6_weighOpening 1 [.ref 0] (mu h' w) ((fun v' H' => v' = none ∧ ∃ h2, H' = mu h2 w ∧ FrC h h2 ∧ ∀ y, y < 2 ^ M → h2 335 y = nI (gnF M 1 V y M))) := by
  refine MtH.of [some (.ref 0), none, none] pl_X6 rfl rfl ?_
  refine g_iconst d_X6_weighOpening_0 ik_0 ?_
  refine w_istore_n (L' := [_, _, _]) d_X6_weighOpening_1 rfl rfl rfl ?_
  exact lp_opB hI hV (2 ^ M) 0 (by omega) h' _ hf (fun y hy => absurd hy (by omega)) (fun y _ hy2 => h1 y hy2)
theorem gn_par {M t : Nat} {V : Nat → Nat} {b : Nat} : ∀ j, gnF M t V b j = gnF M (t % 2) V b j
  | 0 => rfl
  | m + 1 => by rw [gnF, gnF, gn_par m, Nat.mod_mod]
def dryD (M N m : Nat) (g : Hv) (b : Nat) : Nat := cntS (tickN M N m (hset g 0 4 (nI b))) 2 N
theorem p_bwoH {h h' w : Hv} {M N n b : Nat} (hI : HI M N (hv h 15)) (hf : FrC h h') (hb : b < 2 ^ M) {z : Int32} (ez : z = nI n) (hn : n < 2 ^ 30) {y : Int32} (ey : y = nI b) : MtF M_X6_behindWithOpen 5 [.ref 0, .int z, .int y] (mu h' w) (some (.ref 27)) (pu (mu h' w) 27 (tickN M N n (hset (hv h 15) 0 4 (nI b)))) := by
  subst ey
  have e : hv (mu h' w) 15 = hv h 15 := by rw [mu_hv (by decide), hf.hv15]
  have q := m6_behindWithOpen (h := mu h' w) (b := nI b) (M := M) (N := N) (by rw [e]; exact hI.openb hb) ez hn
  rw [e] at q
  exact q
theorem lp_bt6a {h w : Hv} {M N n m : Nat} (hI : HI M N (hv h 15)) (hn : n ≤ 4) (hm : m ≤ 20) {P : Option Value → Hv → Prop} (kx : ∀ h', FrC h h' → (∀ y, y < 2 ^ M → h' 335 y = nI ((dryD M N m (hv h 15)) y)) → GdH M_X6_byTurns 6 73 [some (.ref 0), some (.int (nI n)), some (.int (nI m)), some (.int (nI (2 ^ M)))] [] (mu h' w) P) : ∀ (c b : Nat), b + c = 2 ^ M → ∀ h', FrC h h' → (∀ y, y < b → h' 335 y = nI ((dryD M N m (hv h 15)) y)) → GdH M_X6_byTurns 6 38 [some (.ref 0), some (.int (nI n)), some (.int (nI m)), some (.int (nI b))] [] (mu h' w) P := by
  have hM5 := hI.hM5
  have h32 := pow5 hM5
  intro c
  induction c with
  | zero =>
    intro b hb h' hf h1
    have hb' : b = 2 ^ M := by omega
    subst hb'
    refine g_iload_n d_X6_byTurns_38 rfl ?_
    refine g_iconst d_X6_byTurns_39 ik_1 ?_
    refine g_aload_n d_X6_byTurns_40 rfl ?_
    refine h_getR d_X6_byTurns_41 fl_6_26 sp_L rfl ?_
    refine h_getV (v := nI M) d_X6_byTurns_44 fl_6_132 (sp_hall hall_15) rfl ((mu_low (by decide)).trans (hf.at.trans ((hv_at (by decide)).symm.trans hI.hM))) ?_
    refine g_ishl d_X6_byTurns_47 ?_
    rw [sh1 M (by omega)]
    refine g_icmp_ge d_X6_byTurns_48 (fun c48 => ?_) (fun c48 => absurd (nI_le (a := 2 ^ M) (b := 2 ^ M) (Nat.le_refl _) (by omega)) c48)
    exact kx h' hf h1
  | succ c ih =>
    intro b hb h' hf h1
    have hI2 := (hI.openb (b := b) (by omega)).tickN m
    refine g_iload_n d_X6_byTurns_38 rfl ?_
    refine g_iconst d_X6_byTurns_39 ik_1 ?_
    refine g_aload_n d_X6_byTurns_40 rfl ?_
    refine h_getR d_X6_byTurns_41 fl_6_26 sp_L rfl ?_
    refine h_getV (v := nI M) d_X6_byTurns_44 fl_6_132 (sp_hall hall_15) rfl ((mu_low (by decide)).trans (hf.at.trans ((hv_at (by decide)).symm.trans hI.hM))) ?_
    refine g_ishl d_X6_byTurns_47 ?_
    rw [sh1 M (by omega)]
    refine g_icmp_ge d_X6_byTurns_48 (fun c48 => absurd c48 (nI_ge (a := b) (b := 2 ^ M) (by omega) (by omega))) (fun c48 => ?_)
    refine g_aload_n d_X6_byTurns_51 rfl ?_
    refine h_getR d_X6_byTurns_52 fl_6_58 sp_L rfl ?_
    refine g_iload_n d_X6_byTurns_55 rfl ?_
    refine g_aload_n d_X6_byTurns_56 rfl ?_
    refine g_iload_n d_X6_byTurns_57 rfl ?_
    refine g_iload_n d_X6_byTurns_58 rfl ?_
    refine h_V2a d_X6_byTurns_59 cl_6_276 (p_bwoH hI hf (by omega) rfl (by omega) rfl) sp_L (by decide) rfl (Nat.le_of_ble_eq_true rfl) (by decide) ?_
    refine g_iconst d_X6_byTurns_62 ik_2 ?_
    refine h_V1i d_X6_byTurns_63 cl_6_286 (m_howManyAre hall_27 hI2.hN hI2.hN6) (sp_hall hall_27) (by decide) rfl (Nat.le_of_ble_eq_true rfl) (by decide) ?_
    refine h_astE (k := b) d_X6_byTurns_66 sp_dry rfl (by omega) (by decide) ?_
    refine w_iinc (L' := [_, _, _, _]) d_X6_byTurns_67 ik_1 rfl rfl rfl rfl ?_
    refine g_goto d_X6_byTurns_70 ?_
    rw [nI_1, hs_pu (by omega), mu_hset (by decide), mu_pu (by decide)]
    refine ih (b + 1) (by omega) _ hf.db.p27 (fun y hy => ?_)
    rw [pu_out (by omega)]
    by_cases e : y = b
    · subst e; exact hs_at
    · rw [hs_b e]; exact h1 y (by omega)
theorem lp_bt6b {h w : Hv} {M N n m : Nat} (hI : HI M N (hv h 15)) (hn : n ≤ 4) (hm : m ≤ 20) {P : Option Value → Hv → Prop} (kx : ∀ h' (y3 : Int32), FrC h h' → (∀ y, y < 2 ^ M → h' 335 y = nI (lev M (dryD M N m (hv h 15)) n n y)) → GdH M_X6_byTurns 6 104 [some (.ref 0), some (.int (nI n)), some (.int (nI m)), some (.int y3)] [] (mu h' w) P) : ∀ (r : Nat), r ≤ n → ∀ h', FrC h h' → (∀ y, y < 2 ^ M → h' 335 y = nI (lev M (dryD M N m (hv h 15)) n (n - r) y)) → GdH M_X6_byTurns 6 77 [some (.ref 0), some (.int (nI n)), some (.int (nI m)), some (.int (nI r - 1))] [] (mu h' w) P := by
  have hN6 := hI.hN6
  have hlv : ∀ j y, lev M (dryD M N m (hv h 15)) n j y < 100 := lev_lt (fun y => Nat.lt_of_le_of_lt (cnt_le N) (by omega))
  intro r
  induction r with
  | zero =>
    intro hr h' hf h1
    refine g_iload_n d_X6_byTurns_77 rfl ?_
    refine g_if_lt d_X6_byTurns_78 (fun c78 => ?_) (fun c78 => absurd (show nI 0 - 1 < 0 by decide) c78)
    exact kx h' _ hf h1
  | succ r ih =>
    intro hr h' hf h1
    rw [nI_pred]
    have hlev : ∀ y, lev M (dryD M N m (hv h 15)) n (n - r) y = gnF M (r % 2) (lev M (dryD M N m (hv h 15)) n (n - (r + 1))) y M := fun y => by
      rw [show n - r = (n - (r + 1)) + 1 by omega]
      show gnF M (n - 1 - (n - (r + 1))) _ y M = _
      rw [show n - 1 - (n - (r + 1)) = r by omega]
      exact gn_par M
    refine g_iload_n d_X6_byTurns_77 rfl ?_
    refine g_if_lt d_X6_byTurns_78 (fun c78 => absurd c78 (nI_pos (by omega))) (fun c78 => ?_)
    refine g_iload_n d_X6_byTurns_81 rfl ?_
    refine g_iconst d_X6_byTurns_82 ik_2 ?_
    refine g_irem d_X6_byTurns_83 (by decide) ?_
    rw [show nI r - nI r / 2 * 2 = nI (r % 2) from pk_rem (d := 2) (by omega) (by decide) (by decide)]
    refine g_if_ne d_X6_byTurns_84 (fun c84 => ?_) (fun c84 => ?_)
    · have hz : r % 2 = 1 := by rcases (show r % 2 = 0 ∨ r % 2 = 1 by omega) with z | z; rw [z] at c84; exact absurd rfl c84; exact z
      refine g_aload_n d_X6_byTurns_94 rfl ?_
      refine h_V0P d_X6_byTurns_95 cl_6_292 (m6_weighOpening hI (hlv (n - (r + 1))) hf h1) sp_L (by decide) rfl (Nat.le_of_ble_eq_true rfl) (by decide) ?_
      intro v' h' hp
      obtain ⟨rfl, h2, rfl, hf2, g1⟩ := hp
      refine w_iinc (L' := [_, _, _, _]) d_X6_byTurns_98 ik_m1 rfl rfl rfl rfl ?_
      refine g_goto d_X6_byTurns_101 ?_
      rw [show nI r + (-1) = nI r - 1 from (Int32.sub_eq_add_neg _ _).symm]
      exact ih (by omega) h2 hf2 (fun y hy => by rw [g1 y hy, hlev y, hz])
    · have hz : r % 2 = 0 := by rcases (show r % 2 = 0 ∨ r % 2 = 1 by omega) with z | z; exact z; rw [z] at c84; exact absurd c84 (by decide)
      refine g_aload_n d_X6_byTurns_87 rfl ?_
      refine h_V0P d_X6_byTurns_88 cl_6_289 (m6_weighShutting hI (hlv (n - (r + 1))) hf h1) sp_L (by decide) rfl (Nat.le_of_ble_eq_true rfl) (by decide) ?_
      intro v' h' hp
      obtain ⟨rfl, h2, rfl, hf2, g1⟩ := hp
      refine g_goto d_X6_byTurns_91 ?_
      refine w_iinc (L' := [_, _, _, _]) d_X6_byTurns_98 ik_m1 rfl rfl rfl rfl ?_
      refine g_goto d_X6_byTurns_101 ?_
      rw [show nI r + (-1) = nI r - 1 from (Int32.sub_eq_add_neg _ _).symm]
      exact ih (by omega) h2 hf2 (fun y hy => by rw [g1 y hy, hlev y, hz])

section Rules
variable {M : Meth} {d pc pc' : Nat} {L L' : List (Option Value)} {st : List Value} {h : Hv} {P : Option Value → Hv → Prop}
theorem w_istore_n {i : Fin 4} {x : Int32} (hd : Dc M.2.1 pc (.istore_n i) 1 pc') (hi : Nat.ble ((i : Nat) + 1) M.2.2.1 = true) (hn : nlong L i = true) (hL : L.set i (some (.int x)) = L') (k : GdH M d pc' L' st h P) : GdH M d pc L (.int x :: st) h P := g_istore_n hd hi hn (by rw [hL]; exact k)
theorem w_istore {i : Nat} {x : Int32} (hd : Dc M.2.1 pc (.istore i) 2 pc') (hi : Nat.ble (i + 1) M.2.2.1 = true) (hn : nlong L i = true) (hL : L.set i (some (.int x)) = L') (k : GdH M d pc' L' st h P) : GdH M d pc L (.int x :: st) h P := g_istore hd hi hn (by rw [hL]; exact k)
theorem w_astore_n {i : Fin 4} {x : Nat} (hd : Dc M.2.1 pc (.astore_n i) 1 pc') (hi : Nat.ble ((i : Nat) + 1) M.2.2.1 = true) (hn : nlong L i = true) (hL : L.set i (some (.ref x)) = L') (k : GdH M d pc' L' st h P) : GdH M d pc L (.ref x :: st) h P := g_astore_n hd hi hn (by rw [hL]; exact k)
theorem w_astore {i : Nat} {x : Nat} (hd : Dc M.2.1 pc (.astore i) 2 pc') (hi : Nat.ble (i + 1) M.2.2.1 = true) (hn : nlong L i = true) (hL : L.set i (some (.ref x)) = L') (k : GdH M d pc' L' st h P) : GdH M d pc L (.ref x :: st) h P := g_astore hd hi hn (by rw [hL]; exact k)
theorem w_lstore_n {i : Fin 4} {x : Int64} (hd : Dc M.2.1 pc (.lstore_n i) 1 pc') (hi : Nat.ble ((i : Nat) + 1 + 1) M.2.2.1 = true) (hn : nlong L i = true) (hL : (L.set i (some (.long x))).set (i + 1) none = L') (k : GdH M d pc' L' st h P) : GdH M d pc L (.long x :: st) h P := g_lstore_n hd hi hn (by rw [hL]; exact k)
theorem w_lstore {i : Nat} {x : Int64} (hd : Dc M.2.1 pc (.lstore i) 2 pc') (hi : Nat.ble (i + 1 + 1) M.2.2.1 = true) (hn : nlong L i = true) (hL : (L.set i (some (.long x))).set (i + 1) none = L') (k : GdH M d pc' L' st h P) : GdH M d pc L (.long x :: st) h P := g_lstore hd hi hn (by rw [hL]; exact k)
theorem w_iinc {i : Nat} {n : Int} {x w : Int32} (hd : Dc M.2.1 pc (.iinc i n) 3 pc') (hw : Int32.ofInt n = w) (hi : Nat.ble (i + 1) M.2.2.1 = true) (hn : nlong L i = true) (hl : L[i]? = some (some (.int x))) (hL : L.set i (some (.int (x + w))) = L') (k : GdH M d pc' L' st h P) : GdH M d pc L st h P := g_iinc hd hi hn hl (by rw [hw]) (by rw [hL]; exact k)
end Rules
def b2i (c : Prop) [Decidable c] : Int32 := if c then 1 else 0
theorem b2i_t {c : Prop} [Decidable c] (h : c) : b2i c = 1 := if_pos h
theorem b2i_f {c : Prop} [Decidable c] (h : ¬ c) : b2i c = 0 := if_neg h
theorem b2i_nar {c : Prop} [Decidable c] : narrow .boolean (.int (b2i c)) = .int (b2i c) := by
  unfold b2i
  split <;> rfl
theorem b2i_eq0 {c : Prop} [Decidable c] : b2i c = 0 ↔ ¬ c := by
  unfold b2i
  split
  · rename_i h
    exact ⟨fun e => absurd e (by decide), fun e => absurd h e⟩
  · rename_i h
    exact ⟨fun _ => h, fun _ => rfl⟩
theorem b2i_ne0 {c : Prop} [Decidable c] : ¬ b2i c = 0 ↔ c := by
  rw [b2i_eq0]
  exact Decidable.not_not
theorem b2i_congr {c e : Prop} [Decidable c] [Decidable e] (h : c ↔ e) : b2i c = b2i e := by
  unfold b2i
  by_cases hc : c
  · rw [if_pos hc, if_pos (h.mp hc)]
  · rw [if_neg hc, if_neg (fun q => hc (h.mpr q))]
theorem pF {v : Option Value} {h : Hv} {w : Option Value} {g : Hv} (h1 : v = w) (h2 : h = g) : v = w ∧ h = g := ⟨h1, h2⟩

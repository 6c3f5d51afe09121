theorem sw_X1_answer_21 {d : Nat} {L : List (Option Value)} {st : List Value} {h : Hv} {P : Option Value → Hv → Prop} {x : Int32} (k10 : x = 10 → GdH M_X1_answer d 96 L st h P) (k11 : x = 11 → GdH M_X1_answer d 103 L st h P) (k12 : x = 12 → GdH M_X1_answer d 133 L st h P) (k13 : x = 13 → GdH M_X1_answer d 145 L st h P) (k14 : x = 14 → GdH M_X1_answer d 159 L st h P) (k15 : x = 15 → GdH M_X1_answer d 250 L st h P) (k16 : x = 16 → GdH M_X1_answer d 250 L st h P) (k17 : x = 17 → GdH M_X1_answer d 250 L st h P) (k18 : x = 18 → GdH M_X1_answer d 250 L st h P) (k19 : x = 19 → GdH M_X1_answer d 250 L st h P) (k20 : x = 20 → GdH M_X1_answer d 172 L st h P) (k21 : x = 21 → GdH M_X1_answer d 174 L st h P) (k22 : x = 22 → GdH M_X1_answer d 192 L st h P) (k23 : x = 23 → GdH M_X1_answer d 207 L st h P) (k24 : x = 24 → GdH M_X1_answer d 237 L st h P) (kd : ¬ x = 10 → ¬ x = 11 → ¬ x = 12 → ¬ x = 13 → ¬ x = 14 → ¬ x = 15 → ¬ x = 16 → ¬ x = 17 → ¬ x = 18 → ¬ x = 19 → ¬ x = 20 → ¬ x = 21 → ¬ x = 22 → ¬ x = 23 → ¬ x = 24 → GdH M_X1_answer d 250 L st h P) : GdH M_X1_answer d 21 L (.int x :: st) h P := by
  by_cases e10 : x = 10
  · subst e10
    exact g_tableIn (tgt := 96) (off := 75) d_X1_answer_21 (by decide) (by decide) (by decide) (by decide) (k10 rfl)
  by_cases e11 : x = 11
  · subst e11
    exact g_tableIn (tgt := 103) (off := 82) d_X1_answer_21 (by decide) (by decide) (by decide) (by decide) (k11 rfl)
  by_cases e12 : x = 12
  · subst e12
    exact g_tableIn (tgt := 133) (off := 112) d_X1_answer_21 (by decide) (by decide) (by decide) (by decide) (k12 rfl)
  by_cases e13 : x = 13
  · subst e13
    exact g_tableIn (tgt := 145) (off := 124) d_X1_answer_21 (by decide) (by decide) (by decide) (by decide) (k13 rfl)
  by_cases e14 : x = 14
  · subst e14
    exact g_tableIn (tgt := 159) (off := 138) d_X1_answer_21 (by decide) (by decide) (by decide) (by decide) (k14 rfl)
  by_cases e15 : x = 15
  · subst e15
    exact g_tableIn (tgt := 250) (off := 229) d_X1_answer_21 (by decide) (by decide) (by decide) (by decide) (k15 rfl)
  by_cases e16 : x = 16
  · subst e16
    exact g_tableIn (tgt := 250) (off := 229) d_X1_answer_21 (by decide) (by decide) (by decide) (by decide) (k16 rfl)
  by_cases e17 : x = 17
  · subst e17
    exact g_tableIn (tgt := 250) (off := 229) d_X1_answer_21 (by decide) (by decide) (by decide) (by decide) (k17 rfl)
  by_cases e18 : x = 18
  · subst e18
    exact g_tableIn (tgt := 250) (off := 229) d_X1_answer_21 (by decide) (by decide) (by decide) (by decide) (k18 rfl)
  by_cases e19 : x = 19
  · subst e19
    exact g_tableIn (tgt := 250) (off := 229) d_X1_answer_21 (by decide) (by decide) (by decide) (by decide) (k19 rfl)
  by_cases e20 : x = 20
  · subst e20
    exact g_tableIn (tgt := 172) (off := 151) d_X1_answer_21 (by decide) (by decide) (by decide) (by decide) (k20 rfl)
  by_cases e21 : x = 21
  · subst e21
    exact g_tableIn (tgt := 174) (off := 153) d_X1_answer_21 (by decide) (by decide) (by decide) (by decide) (k21 rfl)
  by_cases e22 : x = 22
  · subst e22
    exact g_tableIn (tgt := 192) (off := 171) d_X1_answer_21 (by decide) (by decide) (by decide) (by decide) (k22 rfl)
  by_cases e23 : x = 23
  · subst e23
    exact g_tableIn (tgt := 207) (off := 186) d_X1_answer_21 (by decide) (by decide) (by decide) (by decide) (k23 rfl)
  by_cases e24 : x = 24
  · subst e24
    exact g_tableIn (tgt := 237) (off := 216) d_X1_answer_21 (by decide) (by decide) (by decide) (by decide) (k24 rfl)
  have z10 : ¬ x.toInt = 10 := lv_neT e10 (by decide)
  have z11 : ¬ x.toInt = 11 := lv_neT e11 (by decide)
  have z12 : ¬ x.toInt = 12 := lv_neT e12 (by decide)
  have z13 : ¬ x.toInt = 13 := lv_neT e13 (by decide)
  have z14 : ¬ x.toInt = 14 := lv_neT e14 (by decide)
  have z15 : ¬ x.toInt = 15 := lv_neT e15 (by decide)
  have z16 : ¬ x.toInt = 16 := lv_neT e16 (by decide)
  have z17 : ¬ x.toInt = 17 := lv_neT e17 (by decide)
  have z18 : ¬ x.toInt = 18 := lv_neT e18 (by decide)
  have z19 : ¬ x.toInt = 19 := lv_neT e19 (by decide)
  have z20 : ¬ x.toInt = 20 := lv_neT e20 (by decide)
  have z21 : ¬ x.toInt = 21 := lv_neT e21 (by decide)
  have z22 : ¬ x.toInt = 22 := lv_neT e22 (by decide)
  have z23 : ¬ x.toInt = 23 := lv_neT e23 (by decide)
  have z24 : ¬ x.toInt = 24 := lv_neT e24 (by decide)
  exact g_tableOut (tgt := 250) d_X1_answer_21 (by omega) (by decide) (kd e10 e11 e12 e13 e14 e15 e16 e17 e18 e19 e20 e21 e22 e23 e24)
theorem sw_X2_alter_1 {d : Nat} {L : List (Option Value)} {st : List Value} {h : Hv} {P : Option Value → Hv → Prop} {x : Int32} (k0 : x = 0 → GdH M_X2_alter d 28 L st h P) (k1 : x = 1 → GdH M_X2_alter d 38 L st h P) (kd : ¬ x = 0 → ¬ x = 1 → GdH M_X2_alter d 48 L st h P) : GdH M_X2_alter d 1 L (.int x :: st) h P := by
  by_cases e0 : x = 0
  · subst e0
    exact g_lookup (tgt := 28) (off := 27) d_X2_alter_1 (by decide) (by decide) (by decide) (k0 rfl)
  by_cases e1 : x = 1
  · subst e1
    exact g_lookup (tgt := 38) (off := 37) d_X2_alter_1 (by decide) (by decide) (by decide) (k1 rfl)
  exact g_lookup (tgt := 48) (off := 47) d_X2_alter_1 (by decide) (by rw [lv_osw e0 (by decide)]; rw [lv_osw e1 (by decide)]; rfl) (by decide) (kd e0 e1)
theorem sw_X2_lastsWith_39 {d : Nat} {L : List (Option Value)} {st : List Value} {h : Hv} {P : Option Value → Hv → Prop} {x : Int32} (k2 : x = 2 → GdH M_X2_lastsWith d 68 L st h P) (k3 : x = 3 → GdH M_X2_lastsWith d 76 L st h P) (k4 : x = 4 → GdH M_X2_lastsWith d 87 L st h P) (k5 : x = 5 → GdH M_X2_lastsWith d 90 L st h P) (kd : ¬ x = 2 → ¬ x = 3 → ¬ x = 4 → ¬ x = 5 → GdH M_X2_lastsWith d 99 L st h P) : GdH M_X2_lastsWith d 39 L (.int x :: st) h P := by
  by_cases e2 : x = 2
  · subst e2
    exact g_tableIn (tgt := 68) (off := 29) d_X2_lastsWith_39 (by decide) (by decide) (by decide) (by decide) (k2 rfl)
  by_cases e3 : x = 3
  · subst e3
    exact g_tableIn (tgt := 76) (off := 37) d_X2_lastsWith_39 (by decide) (by decide) (by decide) (by decide) (k3 rfl)
  by_cases e4 : x = 4
  · subst e4
    exact g_tableIn (tgt := 87) (off := 48) d_X2_lastsWith_39 (by decide) (by decide) (by decide) (by decide) (k4 rfl)
  by_cases e5 : x = 5
  · subst e5
    exact g_tableIn (tgt := 90) (off := 51) d_X2_lastsWith_39 (by decide) (by decide) (by decide) (by decide) (k5 rfl)
  have z2 : ¬ x.toInt = 2 := lv_neT e2 (by decide)
  have z3 : ¬ x.toInt = 3 := lv_neT e3 (by decide)
  have z4 : ¬ x.toInt = 4 := lv_neT e4 (by decide)
  have z5 : ¬ x.toInt = 5 := lv_neT e5 (by decide)
  exact g_tableOut (tgt := 99) d_X2_lastsWith_39 (by omega) (by decide) (kd e2 e3 e4 e5)
theorem sw_X5_kindOfLetter_1 {d : Nat} {L : List (Option Value)} {st : List Value} {h : Hv} {P : Option Value → Hv → Prop} {x : Int32} (k100 : x = 100 → GdH M_X5_kindOfLetter d 58 L st h P) (k103 : x = 103 → GdH M_X5_kindOfLetter d 56 L st h P) (k113 : x = 113 → GdH M_X5_kindOfLetter d 54 L st h P) (k115 : x = 115 → GdH M_X5_kindOfLetter d 60 L st h P) (k119 : x = 119 → GdH M_X5_kindOfLetter d 52 L st h P) (kd : ¬ x = 100 → ¬ x = 103 → ¬ x = 113 → ¬ x = 115 → ¬ x = 119 → GdH M_X5_kindOfLetter d 62 L st h P) : GdH M_X5_kindOfLetter d 1 L (.int x :: st) h P := by
  by_cases e100 : x = 100
  · subst e100
    exact g_lookup (tgt := 58) (off := 57) d_X5_kindOfLetter_1 (by decide) (by decide) (by decide) (k100 rfl)
  by_cases e103 : x = 103
  · subst e103
    exact g_lookup (tgt := 56) (off := 55) d_X5_kindOfLetter_1 (by decide) (by decide) (by decide) (k103 rfl)
  by_cases e113 : x = 113
  · subst e113
    exact g_lookup (tgt := 54) (off := 53) d_X5_kindOfLetter_1 (by decide) (by decide) (by decide) (k113 rfl)
  by_cases e115 : x = 115
  · subst e115
    exact g_lookup (tgt := 60) (off := 59) d_X5_kindOfLetter_1 (by decide) (by decide) (by decide) (k115 rfl)
  by_cases e119 : x = 119
  · subst e119
    exact g_lookup (tgt := 52) (off := 51) d_X5_kindOfLetter_1 (by decide) (by decide) (by decide) (k119 rfl)
  exact g_lookup (tgt := 62) (off := 61) d_X5_kindOfLetter_1 (by decide) (by rw [lv_osw e100 (by decide)]; rw [lv_osw e103 (by decide)]; rw [lv_osw e113 (by decide)]; rw [lv_osw e115 (by decide)]; rw [lv_osw e119 (by decide)]; rfl) (by decide) (kd e100 e103 e113 e115 e119)
theorem sw_X6_machine_15 {d : Nat} {L : List (Option Value)} {st : List Value} {h : Hv} {P : Option Value → Hv → Prop} {x : Int32} (k0 : x = 0 → GdH M_X6_machine d 56 L st h P) (k1 : x = 1 → GdH M_X6_machine d 66 L st h P) (k2 : x = 2 → GdH M_X6_machine d 76 L st h P) (k3 : x = 3 → GdH M_X6_machine d 93 L st h P) (k4 : x = 4 → GdH M_X6_machine d 102 L st h P) (k5 : x = 5 → GdH M_X6_machine d 112 L st h P) (k6 : x = 6 → GdH M_X6_machine d 122 L st h P) (kd : ¬ x = 0 → ¬ x = 1 → ¬ x = 2 → ¬ x = 3 → ¬ x = 4 → ¬ x = 5 → ¬ x = 6 → GdH M_X6_machine d 139 L st h P) : GdH M_X6_machine d 15 L (.int x :: st) h P := by
  by_cases e0 : x = 0
  · subst e0
    exact g_tableIn (tgt := 56) (off := 41) d_X6_machine_15 (by decide) (by decide) (by decide) (by decide) (k0 rfl)
  by_cases e1 : x = 1
  · subst e1
    exact g_tableIn (tgt := 66) (off := 51) d_X6_machine_15 (by decide) (by decide) (by decide) (by decide) (k1 rfl)
  by_cases e2 : x = 2
  · subst e2
    exact g_tableIn (tgt := 76) (off := 61) d_X6_machine_15 (by decide) (by decide) (by decide) (by decide) (k2 rfl)
  by_cases e3 : x = 3
  · subst e3
    exact g_tableIn (tgt := 93) (off := 78) d_X6_machine_15 (by decide) (by decide) (by decide) (by decide) (k3 rfl)
  by_cases e4 : x = 4
  · subst e4
    exact g_tableIn (tgt := 102) (off := 87) d_X6_machine_15 (by decide) (by decide) (by decide) (by decide) (k4 rfl)
  by_cases e5 : x = 5
  · subst e5
    exact g_tableIn (tgt := 112) (off := 97) d_X6_machine_15 (by decide) (by decide) (by decide) (by decide) (k5 rfl)
  by_cases e6 : x = 6
  · subst e6
    exact g_tableIn (tgt := 122) (off := 107) d_X6_machine_15 (by decide) (by decide) (by decide) (by decide) (k6 rfl)
  have z0 : ¬ x.toInt = 0 := lv_neT e0 (by decide)
  have z1 : ¬ x.toInt = 1 := lv_neT e1 (by decide)
  have z2 : ¬ x.toInt = 2 := lv_neT e2 (by decide)
  have z3 : ¬ x.toInt = 3 := lv_neT e3 (by decide)
  have z4 : ¬ x.toInt = 4 := lv_neT e4 (by decide)
  have z5 : ¬ x.toInt = 5 := lv_neT e5 (by decide)
  have z6 : ¬ x.toInt = 6 := lv_neT e6 (by decide)
  exact g_tableOut (tgt := 139) d_X6_machine_15 (by omega) (by decide) (kd e0 e1 e2 e3 e4 e5 e6)
theorem sw_X6_load_15 {d : Nat} {L : List (Option Value)} {st : List Value} {h : Hv} {P : Option Value → Hv → Prop} {x : Int32} (k0 : x = 0 → GdH M_X6_load d 48 L st h P) (k1 : x = 1 → GdH M_X6_load d 58 L st h P) (k2 : x = 2 → GdH M_X6_load d 68 L st h P) (k3 : x = 3 → GdH M_X6_load d 78 L st h P) (k4 : x = 4 → GdH M_X6_load d 106 L st h P) (kd : ¬ x = 0 → ¬ x = 1 → ¬ x = 2 → ¬ x = 3 → ¬ x = 4 → GdH M_X6_load d 115 L st h P) : GdH M_X6_load d 15 L (.int x :: st) h P := by
  by_cases e0 : x = 0
  · subst e0
    exact g_tableIn (tgt := 48) (off := 33) d_X6_load_15 (by decide) (by decide) (by decide) (by decide) (k0 rfl)
  by_cases e1 : x = 1
  · subst e1
    exact g_tableIn (tgt := 58) (off := 43) d_X6_load_15 (by decide) (by decide) (by decide) (by decide) (k1 rfl)
  by_cases e2 : x = 2
  · subst e2
    exact g_tableIn (tgt := 68) (off := 53) d_X6_load_15 (by decide) (by decide) (by decide) (by decide) (k2 rfl)
  by_cases e3 : x = 3
  · subst e3
    exact g_tableIn (tgt := 78) (off := 63) d_X6_load_15 (by decide) (by decide) (by decide) (by decide) (k3 rfl)
  by_cases e4 : x = 4
  · subst e4
    exact g_tableIn (tgt := 106) (off := 91) d_X6_load_15 (by decide) (by decide) (by decide) (by decide) (k4 rfl)
  have z0 : ¬ x.toInt = 0 := lv_neT e0 (by decide)
  have z1 : ¬ x.toInt = 1 := lv_neT e1 (by decide)
  have z2 : ¬ x.toInt = 2 := lv_neT e2 (by decide)
  have z3 : ¬ x.toInt = 3 := lv_neT e3 (by decide)
  have z4 : ¬ x.toInt = 4 := lv_neT e4 (by decide)
  exact g_tableOut (tgt := 115) d_X6_load_15 (by omega) (by decide) (kd e0 e1 e2 e3 e4)
theorem sw_X6_stand_14 {d : Nat} {L : List (Option Value)} {st : List Value} {h : Hv} {P : Option Value → Hv → Prop} {x : Int32} (k0 : x = 0 → GdH M_X6_stand d 52 L st h P) (k1 : x = 1 → GdH M_X6_stand d 60 L st h P) (k2 : x = 2 → GdH M_X6_stand d 69 L st h P) (k3 : x = 3 → GdH M_X6_stand d 78 L st h P) (k4 : x = 4 → GdH M_X6_stand d 87 L st h P) (k5 : x = 5 → GdH M_X6_stand d 95 L st h P) (kd : ¬ x = 0 → ¬ x = 1 → ¬ x = 2 → ¬ x = 3 → ¬ x = 4 → ¬ x = 5 → GdH M_X6_stand d 103 L st h P) : GdH M_X6_stand d 14 L (.int x :: st) h P := by
  by_cases e0 : x = 0
  · subst e0
    exact g_tableIn (tgt := 52) (off := 38) d_X6_stand_14 (by decide) (by decide) (by decide) (by decide) (k0 rfl)
  by_cases e1 : x = 1
  · subst e1
    exact g_tableIn (tgt := 60) (off := 46) d_X6_stand_14 (by decide) (by decide) (by decide) (by decide) (k1 rfl)
  by_cases e2 : x = 2
  · subst e2
    exact g_tableIn (tgt := 69) (off := 55) d_X6_stand_14 (by decide) (by decide) (by decide) (by decide) (k2 rfl)
  by_cases e3 : x = 3
  · subst e3
    exact g_tableIn (tgt := 78) (off := 64) d_X6_stand_14 (by decide) (by decide) (by decide) (by decide) (k3 rfl)
  by_cases e4 : x = 4
  · subst e4
    exact g_tableIn (tgt := 87) (off := 73) d_X6_stand_14 (by decide) (by decide) (by decide) (by decide) (k4 rfl)
  by_cases e5 : x = 5
  · subst e5
    exact g_tableIn (tgt := 95) (off := 81) d_X6_stand_14 (by decide) (by decide) (by decide) (by decide) (k5 rfl)
  have z0 : ¬ x.toInt = 0 := lv_neT e0 (by decide)
  have z1 : ¬ x.toInt = 1 := lv_neT e1 (by decide)
  have z2 : ¬ x.toInt = 2 := lv_neT e2 (by decide)
  have z3 : ¬ x.toInt = 3 := lv_neT e3 (by decide)
  have z4 : ¬ x.toInt = 4 := lv_neT e4 (by decide)
  have z5 : ¬ x.toInt = 5 := lv_neT e5 (by decide)
  exact g_tableOut (tgt := 103) d_X6_stand_14 (by omega) (by decide) (kd e0 e1 e2 e3 e4 e5)
theorem sw_X6_inside_41 {d : Nat} {L : List (Option Value)} {st : List Value} {h : Hv} {P : Option Value → Hv → Prop} {x : Int32} (k0 : x = 0 → GdH M_X6_inside d 68 L st h P) (k1 : x = 1 → GdH M_X6_inside d 75 L st h P) (kd : ¬ x = 0 → ¬ x = 1 → GdH M_X6_inside d 83 L st h P) : GdH M_X6_inside d 41 L (.int x :: st) h P := by
  by_cases e0 : x = 0
  · subst e0
    exact g_lookup (tgt := 68) (off := 27) d_X6_inside_41 (by decide) (by decide) (by decide) (k0 rfl)
  by_cases e1 : x = 1
  · subst e1
    exact g_lookup (tgt := 75) (off := 34) d_X6_inside_41 (by decide) (by decide) (by decide) (k1 rfl)
  exact g_lookup (tgt := 83) (off := 42) d_X6_inside_41 (by decide) (by rw [lv_osw e0 (by decide)]; rw [lv_osw e1 (by decide)]; rfl) (by decide) (kd e0 e1)
theorem sw_X6_fills_111 {d : Nat} {L : List (Option Value)} {st : List Value} {h : Hv} {P : Option Value → Hv → Prop} {x : Int32} (k0 : x = 0 → GdH M_X6_fills d 136 L st h P) (k1 : x = 1 → GdH M_X6_fills d 138 L st h P) (kd : ¬ x = 0 → ¬ x = 1 → GdH M_X6_fills d 149 L st h P) : GdH M_X6_fills d 111 L (.int x :: st) h P := by
  by_cases e0 : x = 0
  · subst e0
    exact g_lookup (tgt := 136) (off := 25) d_X6_fills_111 (by decide) (by decide) (by decide) (k0 rfl)
  by_cases e1 : x = 1
  · subst e1
    exact g_lookup (tgt := 138) (off := 27) d_X6_fills_111 (by decide) (by decide) (by decide) (k1 rfl)
  exact g_lookup (tgt := 149) (off := 38) d_X6_fills_111 (by decide) (by rw [lv_osw e0 (by decide)]; rw [lv_osw e1 (by decide)]; rfl) (by decide) (kd e0 e1)
theorem sw_X6_count_1 {d : Nat} {L : List (Option Value)} {st : List Value} {h : Hv} {P : Option Value → Hv → Prop} {x : Int32} (k0 : x = 0 → GdH M_X6_count d 52 L st h P) (k1 : x = 1 → GdH M_X6_count d 60 L st h P) (k2 : x = 2 → GdH M_X6_count d 68 L st h P) (k3 : x = 3 → GdH M_X6_count d 76 L st h P) (k4 : x = 4 → GdH M_X6_count d 84 L st h P) (k5 : x = 5 → GdH M_X6_count d 93 L st h P) (k6 : x = 6 → GdH M_X6_count d 101 L st h P) (k7 : x = 7 → GdH M_X6_count d 109 L st h P) (k8 : x = 8 → GdH M_X6_count d 117 L st h P) (kd : ¬ x = 0 → ¬ x = 1 → ¬ x = 2 → ¬ x = 3 → ¬ x = 4 → ¬ x = 5 → ¬ x = 6 → ¬ x = 7 → ¬ x = 8 → GdH M_X6_count d 125 L st h P) : GdH M_X6_count d 1 L (.int x :: st) h P := by
  by_cases e0 : x = 0
  · subst e0
    exact g_tableIn (tgt := 52) (off := 51) d_X6_count_1 (by decide) (by decide) (by decide) (by decide) (k0 rfl)
  by_cases e1 : x = 1
  · subst e1
    exact g_tableIn (tgt := 60) (off := 59) d_X6_count_1 (by decide) (by decide) (by decide) (by decide) (k1 rfl)
  by_cases e2 : x = 2
  · subst e2
    exact g_tableIn (tgt := 68) (off := 67) d_X6_count_1 (by decide) (by decide) (by decide) (by decide) (k2 rfl)
  by_cases e3 : x = 3
  · subst e3
    exact g_tableIn (tgt := 76) (off := 75) d_X6_count_1 (by decide) (by decide) (by decide) (by decide) (k3 rfl)
  by_cases e4 : x = 4
  · subst e4
    exact g_tableIn (tgt := 84) (off := 83) d_X6_count_1 (by decide) (by decide) (by decide) (by decide) (k4 rfl)
  by_cases e5 : x = 5
  · subst e5
    exact g_tableIn (tgt := 93) (off := 92) d_X6_count_1 (by decide) (by decide) (by decide) (by decide) (k5 rfl)
  by_cases e6 : x = 6
  · subst e6
    exact g_tableIn (tgt := 101) (off := 100) d_X6_count_1 (by decide) (by decide) (by decide) (by decide) (k6 rfl)
  by_cases e7 : x = 7
  · subst e7
    exact g_tableIn (tgt := 109) (off := 108) d_X6_count_1 (by decide) (by decide) (by decide) (by decide) (k7 rfl)
  by_cases e8 : x = 8
  · subst e8
    exact g_tableIn (tgt := 117) (off := 116) d_X6_count_1 (by decide) (by decide) (by decide) (by decide) (k8 rfl)
  have z0 : ¬ x.toInt = 0 := lv_neT e0 (by decide)
  have z1 : ¬ x.toInt = 1 := lv_neT e1 (by decide)
  have z2 : ¬ x.toInt = 2 := lv_neT e2 (by decide)
  have z3 : ¬ x.toInt = 3 := lv_neT e3 (by decide)
  have z4 : ¬ x.toInt = 4 := lv_neT e4 (by decide)
  have z5 : ¬ x.toInt = 5 := lv_neT e5 (by decide)
  have z6 : ¬ x.toInt = 6 := lv_neT e6 (by decide)
  have z7 : ¬ x.toInt = 7 := lv_neT e7 (by decide)
  have z8 : ¬ x.toInt = 8 := lv_neT e8 (by decide)
  exact g_tableOut (tgt := 125) d_X6_count_1 (by omega) (by decide) (kd e0 e1 e2 e3 e4 e5 e6 e7 e8)

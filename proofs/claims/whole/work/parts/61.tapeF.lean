/-! THE TAPE: the reference reads all -/
def DR (M N : Nat) (g w : Hv) : Prop := w 5 0 = nI M ∧ w 5 1 = nI N ∧ (∀ k, k < M → w 5 (2 + k) = g 1 k ∧ w 5 (7 + k) = g 2 k ∧ w 5 (12 + k) = g 3 k) ∧ (∀ l, l < N → w 6 (18 + l) = g 7 l ∧ w 6 (24 + l) = g 8 l) ∧ w 6 1 = g 0 0 ∧ (∀ y, (y = 0 ∨ (8 ≤ y ∧ y < 18) ∨ (30 ≤ y ∧ y < 42)) → w 6 y = 0)
theorem addM_r {g : Hv} {n k : Nat} {a b c : Int32} : addM g n a b c 1 k = (if k = n then a else g 1 k) ∧ addM g n a b c 2 k = (if k = n then b else g 2 k) ∧ addM g n a b c 3 k = (if k = n then c else g 3 k) ∧ addM g n a b c 4 k = (if k = n then -1 else g 4 k) ∧ addM g n a b c 5 k = (if k = n then 0 else g 5 k) ∧ addM g n a b c 6 k = (if k = n then 0 else g 6 k) := by
  unfold addM hset
  simp
theorem addM_s {g : Hv} {n k : Nat} {a b c : Int32} : addM g n a b c 7 k = g 7 k ∧ addM g n a b c 8 k = g 8 k ∧ addM g n a b c 0 0 = g 0 0 ∧ addM g n a b c 0 1 = g 0 1 ∧ addM g n a b c 0 4 = g 0 4 ||| 1 <<< (nI n &&& 31) := by
  unfold addM hset
  simp
theorem addL_r {g : Hv} {n k : Nat} {a b : Int32} : addL g n a b 7 k = (if k = n then a else g 7 k) ∧ addL g n a b 8 k = (if k = n then b else g 8 k) ∧ addL g n a b 9 k = (if k = n then 0 else g 9 k) ∧ addL g n a b 11 k = (if k = n then nI n else g 11 k) := by
  unfold addL dirtS hset
  simp
theorem addL_s {g : Hv} {n k : Nat} {a b : Int32} : addL g n a b 1 k = g 1 k ∧ addL g n a b 2 k = g 2 k ∧ addL g n a b 3 k = g 3 k ∧ addL g n a b 4 k = g 4 k ∧ addL g n a b 5 k = g 5 k ∧ addL g n a b 6 k = g 6 k ∧ addL g n a b 0 0 = g 0 0 ∧ addL g n a b 0 1 = g 0 1 ∧ addL g n a b 0 2 = g 0 2 ∧ addL g n a b 0 4 = g 0 4 := by
  unfold addL dirtS hset
  simp
theorem DR.addM {M kd v1 v2 : Nat} {g w w' : Hv} (d : DR M 0 g w) (h0 : w' 5 0 = nI (M + 1)) (h1 : w' 5 (2 + M) = nI kd) (h2 : w' 5 (7 + M) = nI v1) (h3 : w' 5 (12 + M) = nI v2) (h4 : ∀ y, y ≠ 0 → y ≠ 2 + M → y ≠ 7 + M → y ≠ 12 + M → w' 5 y = w 5 y) (h5 : ∀ y, w' 6 y = w 6 y) (hM : M < 5) : DR (M + 1) 0 (Jvm.Pilot.@@N@@.addM g M (nI kd) (nI v1) (nI v2)) w' := by
  obtain ⟨d0, d1, d2, d3, d4, d5⟩ := d
  refine ⟨h0, (h4 1 (by omega) (by omega) (by omega) (by omega)).trans d1, fun k hk => ?_, fun l hl => absurd hl (by omega), ?_, fun y hy => (h5 y).trans (d5 y hy)⟩
  · obtain ⟨a1, a2, a3, -⟩ := addM_r (g := g) (n := M) (k := k) (a := nI kd) (b := nI v1) (c := nI v2)
    rw [a1, a2, a3]
    by_cases e : k = M
    · subst e
      rw [if_pos rfl, if_pos rfl, if_pos rfl]
      exact ⟨h1, h2, h3⟩
    · rw [if_neg e, if_neg e, if_neg e, h4 (2 + k) (by omega) (by omega) (by omega) (by omega), h4 (7 + k) (by omega) (by omega) (by omega) (by omega), h4 (12 + k) (by omega) (by omega) (by omega) (by omega)]
      exact d2 k (by omega)
  · rw [h5, d4]; exact (addM_s (k := 0)).2.2.1.symm
theorem DR.addL {M N v1 v2 : Nat} {g w w' : Hv} (d : DR M N g w) (h0 : w' 5 1 = nI (N + 1)) (h1 : w' 6 (18 + N) = nI v1) (h2 : w' 6 (24 + N) = nI v2) (h4 : ∀ y, y ≠ 1 → w' 5 y = w 5 y) (h5 : ∀ y, y ≠ 18 + N → y ≠ 24 + N → w' 6 y = w 6 y) (hN : N < 6) : DR M (N + 1) (Jvm.Pilot.@@N@@.addL g N (nI v1) (nI v2)) w' := by
  obtain ⟨d0, d1, d2, d3, d4, d5⟩ := d
  refine ⟨(h4 0 (by decide)).trans d0, h0, fun k hk => ?_, fun l hl => ?_, ?_, fun y hy => (h5 y (by omega) (by omega)).trans (d5 y hy)⟩
  · obtain ⟨a1, a2, a3, -⟩ := addL_s (g := g) (n := N) (k := k) (a := nI v1) (b := nI v2)
    rw [a1, a2, a3, h4 (2 + k) (by omega), h4 (7 + k) (by omega), h4 (12 + k) (by omega)]
    exact d2 k hk
  · obtain ⟨a1, a2, -⟩ := addL_r (g := g) (n := N) (k := l) (a := nI v1) (b := nI v2)
    rw [a1, a2]
    by_cases e : l = N
    · subst e
      rw [if_pos rfl, if_pos rfl]
      exact ⟨h1, h2⟩
    · rw [if_neg e, if_neg e, h5 (18 + l) (by omega) (by omega), h5 (24 + l) (by omega) (by omega)]
      exact d3 l (by omega)
  · rw [h5 1 (by omega) (by omega), d4]; exact (addL_s (k := 0)).2.2.2.2.2.2.1.symm
theorem fy_of {b : Nat → Nat} {L p : Nat} {w : Hv} (rs : RS b L w p) {k : Nat} (hk : 0 < k ∧ k < 4) : FY w (hset (hset w 0 11 (nI k)) 0 12 (nI p)) (k, p) := ⟨fun x y _ _ h => by rw [hs_ne (by omega), hs_ne (by omega)], by rw [hs_b (by decide), hs_at], hs_at, hk⟩
theorem kindN_l {c : Nat} (h : ¬ kindN c = 0) : 97 ≤ c ∧ c ≤ 122 ∧ c ≠ 98 := by
  unfold kindN at h
  repeat' split at h
  all_goals first | omega | exact absurd rfl h
theorem lp_rx {h w : Hv} {e : Nat × Nat} {w0 : Hv} (y : FY w0 w e) {P : Option Value → Hv → Prop} (hP : P none (mu h w)) : ∀ (y1 y2 : Option Value), GdH M_X7_reads 4 82 [some (.ref 360), y1, y2] [] (mu h w) P := by
  intro y1 y2
  refine g_aload_n d_X7_reads_82 rfl ?_
  refine h_V0i d_X7_reads_83 cl_7_111 (m7_isWell y.2.1) sp_M (by decide) rfl (Nat.le_of_ble_eq_true rfl) (by decide) ?_
  refine g_if_eq d_X7_reads_86 (fun c86 => ?_) (fun c86 => absurd (b2i_f (nI_ne0 y.2.2.2.1 (by have := y.2.2.2.2; omega))) c86)
  refine h_vret d_X7_reads_233 rfl ?_
  exact hP
theorem lp_rl7 {b : Nat → Nat} {L M : Nat} {h : Hv} : ∀ (f N p : Nat) (g w1 : Hv), N + f = 6 → RS b L w1 p → w1 0 11 = 0 → DR M N g w1 → 0 < M → M ≤ 5 → (N = 0 → kindN (tkC b L p) = 0) → ∀ (y1 y2 : Option Value), GdH M_X7_reads 4 82 [some (.ref 360), y1, y2] [] (mu h w1) (fun v' h' => v' = none ∧ ∃ w2, h' = mu h w2 ∧ (match pLs b L (f + 1) N p g with | .ok (N', g') => FrD w1 w2 ∧ w2 0 11 = 0 ∧ DR M N' g' w2 | .error e => FY w1 w2 e)) := by
  intro f
  induction f with
  | zero =>
    intro N p g w1 hf rs h0 dr hM0 hM5 hk0 y1 y2
    have hC := tkC_lt (p := p) (fun k hk => (rs.1.2.2 k hk).2)
    have ht7 := tk7_lt (tkC b L p)
    have hkn := kindN_lt (tkC b L p)
    by_cases hz : tkC b L p = 98
    · have t1 : tk7 (tkC b L p) = 1 := tk7_1.mpr (by omega)
      rw [show pLs b L (0 + 1) N p g = .error (3, p) by rw [pLs, if_pos hz, if_pos (by omega)]]
      refine g_aload_n d_X7_reads_82 rfl ?_
      refine h_V0i d_X7_reads_83 cl_7_111 (m7_isWell h0) sp_M (by decide) rfl (Nat.le_of_ble_eq_true rfl) (by decide) ?_
      refine g_if_eq d_X7_reads_86 (fun c86 => absurd c86 (by decide)) (fun c86 => ?_)
      refine g_aload_n d_X7_reads_89 rfl ?_
      refine mm_getV (v := nI (tk7 (tkC b L p))) d_X7_reads_90 fl_7_105 sp_M rfl (rs.2.2.2.2.1) ?_
      refine g_if_ne d_X7_reads_93 (fun c93 => ?_) (fun c93 => absurd c93 (by rw [t1]; decide))
      refine g_aload_n d_X7_reads_105 rfl ?_
      refine mm_getV (v := nI (tk7 (tkC b L p))) d_X7_reads_106 fl_7_105 sp_M rfl (rs.2.2.2.2.1) ?_
      refine g_iconst d_X7_reads_109 ik_1 ?_
      refine g_icmp_ne d_X7_reads_110 (fun c110 => absurd (show nI (tk7 (tkC b L p)) = 1 by rw [t1]; rfl) c110) (fun c110 => ?_)
      have hl1 := tk7_1.mp (nI_inj (b := 1) c110 (by omega) (by decide))
      have hlt : tkC b L p < 256 := by omega
      refine g_aload_n d_X7_reads_113 rfl ?_
      refine mm_getV (v := nI (tkC b L p)) d_X7_reads_114 fl_7_102 sp_M rfl (rs.2.2.2.2.2.2 hlt) ?_
      refine h_S1i d_X7_reads_117 cl_7_125 (m7_kindOf (by omega)) (Nat.le_of_ble_eq_true rfl) (by decide) ?_
      refine g_if_le d_X7_reads_120 (fun c120 => ?_) (fun c120 => absurd (show nI (kindN (tkC b L p)) ≤ 0 by rw [hz]; decide) c120)
      refine g_iconst d_X7_reads_136 ik_0 ?_
      refine w_istore_n (L' := [_, _, _]) d_X7_reads_137 rfl rfl rfl ?_
      refine g_aload_n d_X7_reads_138 rfl ?_
      refine mm_getV (v := nI (tk7 (tkC b L p))) d_X7_reads_139 fl_7_105 sp_M rfl (rs.2.2.2.2.1) ?_
      refine g_iconst d_X7_reads_142 ik_1 ?_
      refine g_icmp_ne d_X7_reads_143 (fun c143 => absurd (show nI (tk7 (tkC b L p)) = 1 by rw [t1]; rfl) c143) (fun c143 => ?_)
      have hl2 := tk7_1.mp (nI_inj (b := 1) c143 (by omega) (by decide))
      have hlt2 : tkC b L p < 256 := by omega
      refine g_aload_n d_X7_reads_146 rfl ?_
      refine mm_getV (v := nI (tkC b L p)) d_X7_reads_147 fl_7_102 sp_M rfl (rs.2.2.2.2.2.2 hlt2) ?_
      refine g_bipush d_X7_reads_150 bk_98 ?_
      refine g_icmp_ne d_X7_reads_152 (fun c152 => absurd (show nI (tkC b L p) = 98 by rw [hz]; rfl) c152) (fun c152 => ?_)
      refine g_aload_n d_X7_reads_155 rfl ?_
      refine h_getR d_X7_reads_156 fl_7_22 sp_M rfl ?_
      refine g_iconst d_X7_reads_159 ik_0 ?_
      refine mm_aldV (k := 0) (v := nI M) d_X7_reads_160 (j := 5) sp_m_draft rfl (by decide) rfl (by omega) (by decide) (dr.1) ?_
      refine g_if_le d_X7_reads_161 (fun c161 => absurd c161 (nI_ge (a := 0) (b := M) hM0 (by omega))) (fun c161 => ?_)
      refine g_iconst d_X7_reads_164 ik_1 ?_
      refine g_goto d_X7_reads_165 ?_
      refine w_istore_n (L' := [_, _, _]) d_X7_reads_169 rfl rfl rfl ?_
      refine g_iload_n d_X7_reads_170 rfl ?_
      refine g_if_eq d_X7_reads_171 (fun c171 => ?_) (fun c171 => absurd c171 (by decide))
      refine g_iload_n d_X7_reads_191 rfl ?_
      refine g_if_eq d_X7_reads_192 (fun c192 => absurd c192 (by decide)) (fun c192 => ?_)
      refine g_aload_n d_X7_reads_195 rfl ?_
      refine h_getR d_X7_reads_196 fl_7_22 sp_M rfl ?_
      refine g_iconst d_X7_reads_199 ik_1 ?_
      refine mm_aldV (k := 1) (v := nI N) d_X7_reads_200 (j := 5) sp_m_draft rfl (by decide) rfl (by omega) (by decide) (dr.2.1) ?_
      refine g_bipush d_X7_reads_201 bk_6 ?_
      refine g_icmp_ge d_X7_reads_203 (fun c203 => ?_) (fun c203 => absurd (nI_le (a := 6) (b := N) (by omega) (by omega)) c203)
      refine g_aload_n d_X7_reads_213 rfl ?_
      refine g_iload_n d_X7_reads_214 rfl ?_
      refine g_if_ne d_X7_reads_215 (fun c215 => absurd c215 (by decide)) (fun c215 => ?_)
      refine g_iload_n d_X7_reads_218 rfl ?_
      refine g_if_eq d_X7_reads_219 (fun c219 => absurd c219 (by decide)) (fun c219 => ?_)
      refine g_iconst d_X7_reads_222 ik_3 ?_
      refine g_goto d_X7_reads_223 ?_
      refine h_V1v d_X7_reads_227 cl_7_118 (m7_faulty h0 rs.2.2.1) sp_M (by decide) rfl (Nat.le_of_ble_eq_true rfl) (by decide) ?_
      refine g_goto d_X7_reads_230 ?_
      exact lp_rx (fy_of rs (k := 3) (by decide)) ⟨rfl, _, rfl, fy_of rs (k := 3) (by decide)⟩ _ _
    · by_cases hw : 0 < N ∧ tkC b L p = 257
      · rw [show pLs b L (0 + 1) N p g = .ok (N, g) by rw [pLs, if_neg hz, if_pos hw]]
        refine g_aload_n d_X7_reads_82 rfl ?_
        refine h_V0i d_X7_reads_83 cl_7_111 (m7_isWell h0) sp_M (by decide) rfl (Nat.le_of_ble_eq_true rfl) (by decide) ?_
        refine g_if_eq d_X7_reads_86 (fun c86 => absurd c86 (by decide)) (fun c86 => ?_)
        refine g_aload_n d_X7_reads_89 rfl ?_
        refine mm_getV (v := nI (tk7 (tkC b L p))) d_X7_reads_90 fl_7_105 sp_M rfl (rs.2.2.2.2.1) ?_
        refine g_if_ne d_X7_reads_93 (fun c93 => absurd (show nI (tk7 (tkC b L p)) = 0 by rw [tk7_0.mpr hw.2]; rfl) c93) (fun c93 => ?_)
        refine g_aload_n d_X7_reads_96 rfl ?_
        refine h_getR d_X7_reads_97 fl_7_22 sp_M rfl ?_
        refine g_iconst d_X7_reads_100 ik_1 ?_
        refine mm_aldV (k := 1) (v := nI N) d_X7_reads_101 (j := 5) sp_m_draft rfl (by decide) rfl (by omega) (by decide) (dr.2.1) ?_
        refine g_if_gt d_X7_reads_102 (fun c102 => ?_) (fun c102 => absurd (show (0 : Int32) < nI N from (nI_ltI (a := 0) (b := N) (by decide) (by omega)).mpr hw.1) c102)
        refine h_vret d_X7_reads_233 rfl ?_
        exact ⟨rfl, w1, rfl, FrD.rf, h0, dr⟩
      · rw [show pLs b L (0 + 1) N p g = .error (1, p) by rw [pLs, if_neg hz, if_neg hw]]
        refine g_aload_n d_X7_reads_82 rfl ?_
        refine h_V0i d_X7_reads_83 cl_7_111 (m7_isWell h0) sp_M (by decide) rfl (Nat.le_of_ble_eq_true rfl) (by decide) ?_
        refine g_if_eq d_X7_reads_86 (fun c86 => absurd c86 (by decide)) (fun c86 => ?_)
        refine g_aload_n d_X7_reads_89 rfl ?_
        refine mm_getV (v := nI (tk7 (tkC b L p))) d_X7_reads_90 fl_7_105 sp_M rfl (rs.2.2.2.2.1) ?_
        refine g_if_ne d_X7_reads_93 (fun c93 => ?_) (fun c93 => ?_)
        · refine g_aload_n d_X7_reads_105 rfl ?_
          refine mm_getV (v := nI (tk7 (tkC b L p))) d_X7_reads_106 fl_7_105 sp_M rfl (rs.2.2.2.2.1) ?_
          refine g_iconst d_X7_reads_109 ik_1 ?_
          refine g_icmp_ne d_X7_reads_110 (fun c110 => ?_) (fun c110 => ?_)
          · refine g_iconst d_X7_reads_136 ik_0 ?_
            refine w_istore_n (L' := [_, _, _]) d_X7_reads_137 rfl rfl rfl ?_
            refine g_aload_n d_X7_reads_138 rfl ?_
            refine mm_getV (v := nI (tk7 (tkC b L p))) d_X7_reads_139 fl_7_105 sp_M rfl (rs.2.2.2.2.1) ?_
            refine g_iconst d_X7_reads_142 ik_1 ?_
            refine g_icmp_ne d_X7_reads_143 (fun c143 => ?_) (fun c143 => ?_)
            · refine g_iconst d_X7_reads_168 ik_0 ?_
              refine w_istore_n (L' := [_, _, _]) d_X7_reads_169 rfl rfl rfl ?_
              refine g_iload_n d_X7_reads_170 rfl ?_
              refine g_if_eq d_X7_reads_171 (fun c171 => ?_) (fun c171 => absurd c171 (by decide))
              refine g_iload_n d_X7_reads_191 rfl ?_
              refine g_if_eq d_X7_reads_192 (fun c192 => ?_) (fun c192 => absurd c192 (by decide))
              refine g_aload_n d_X7_reads_213 rfl ?_
              refine g_iload_n d_X7_reads_214 rfl ?_
              refine g_if_ne d_X7_reads_215 (fun c215 => absurd c215 (by decide)) (fun c215 => ?_)
              refine g_iload_n d_X7_reads_218 rfl ?_
              refine g_if_eq d_X7_reads_219 (fun c219 => ?_) (fun c219 => absurd c219 (by decide))
              refine g_iconst d_X7_reads_226 ik_1 ?_
              refine h_V1v d_X7_reads_227 cl_7_118 (m7_faulty h0 rs.2.2.1) sp_M (by decide) rfl (Nat.le_of_ble_eq_true rfl) (by decide) ?_
              refine g_goto d_X7_reads_230 ?_
              exact lp_rx (fy_of rs (k := 1) (by decide)) ⟨rfl, _, rfl, fy_of rs (k := 1) (by decide)⟩ _ _
            · have hl2 := tk7_1.mp (nI_inj (b := 1) c143 (by omega) (by decide))
              have hlt2 : tkC b L p < 256 := by omega
              refine g_aload_n d_X7_reads_146 rfl ?_
              refine mm_getV (v := nI (tkC b L p)) d_X7_reads_147 fl_7_102 sp_M rfl (rs.2.2.2.2.2.2 hlt2) ?_
              refine g_bipush d_X7_reads_150 bk_98 ?_
              refine g_icmp_ne d_X7_reads_152 (fun c152 => ?_) (fun c152 => ?_)
              · refine g_iconst d_X7_reads_168 ik_0 ?_
                refine w_istore_n (L' := [_, _, _]) d_X7_reads_169 rfl rfl rfl ?_
                refine g_iload_n d_X7_reads_170 rfl ?_
                refine g_if_eq d_X7_reads_171 (fun c171 => ?_) (fun c171 => absurd c171 (by decide))
                refine g_iload_n d_X7_reads_191 rfl ?_
                refine g_if_eq d_X7_reads_192 (fun c192 => ?_) (fun c192 => absurd c192 (by decide))
                refine g_aload_n d_X7_reads_213 rfl ?_
                refine g_iload_n d_X7_reads_214 rfl ?_
                refine g_if_ne d_X7_reads_215 (fun c215 => absurd c215 (by decide)) (fun c215 => ?_)
                refine g_iload_n d_X7_reads_218 rfl ?_
                refine g_if_eq d_X7_reads_219 (fun c219 => ?_) (fun c219 => absurd c219 (by decide))
                refine g_iconst d_X7_reads_226 ik_1 ?_
                refine h_V1v d_X7_reads_227 cl_7_118 (m7_faulty h0 rs.2.2.1) sp_M (by decide) rfl (Nat.le_of_ble_eq_true rfl) (by decide) ?_
                refine g_goto d_X7_reads_230 ?_
                exact lp_rx (fy_of rs (k := 1) (by decide)) ⟨rfl, _, rfl, fy_of rs (k := 1) (by decide)⟩ _ _
              · exact absurd (nI_inj (b := 98) c152 (by omega) (by decide)) hz
          · have hl1 := tk7_1.mp (nI_inj (b := 1) c110 (by omega) (by decide))
            have hlt : tkC b L p < 256 := by omega
            refine g_aload_n d_X7_reads_113 rfl ?_
            refine mm_getV (v := nI (tkC b L p)) d_X7_reads_114 fl_7_102 sp_M rfl (rs.2.2.2.2.2.2 hlt) ?_
            refine h_S1i d_X7_reads_117 cl_7_125 (m7_kindOf (by omega)) (Nat.le_of_ble_eq_true rfl) (by decide) ?_
            refine g_if_le d_X7_reads_120 (fun c120 => ?_) (fun c120 => ?_)
            · refine g_iconst d_X7_reads_136 ik_0 ?_
              refine w_istore_n (L' := [_, _, _]) d_X7_reads_137 rfl rfl rfl ?_
              refine g_aload_n d_X7_reads_138 rfl ?_
              refine mm_getV (v := nI (tk7 (tkC b L p))) d_X7_reads_139 fl_7_105 sp_M rfl (rs.2.2.2.2.1) ?_
              refine g_iconst d_X7_reads_142 ik_1 ?_
              refine g_icmp_ne d_X7_reads_143 (fun c143 => ?_) (fun c143 => ?_)
              · refine g_iconst d_X7_reads_168 ik_0 ?_
                refine w_istore_n (L' := [_, _, _]) d_X7_reads_169 rfl rfl rfl ?_
                refine g_iload_n d_X7_reads_170 rfl ?_
                refine g_if_eq d_X7_reads_171 (fun c171 => ?_) (fun c171 => absurd c171 (by decide))
                refine g_iload_n d_X7_reads_191 rfl ?_
                refine g_if_eq d_X7_reads_192 (fun c192 => ?_) (fun c192 => absurd c192 (by decide))
                refine g_aload_n d_X7_reads_213 rfl ?_
                refine g_iload_n d_X7_reads_214 rfl ?_
                refine g_if_ne d_X7_reads_215 (fun c215 => absurd c215 (by decide)) (fun c215 => ?_)
                refine g_iload_n d_X7_reads_218 rfl ?_
                refine g_if_eq d_X7_reads_219 (fun c219 => ?_) (fun c219 => absurd c219 (by decide))
                refine g_iconst d_X7_reads_226 ik_1 ?_
                refine h_V1v d_X7_reads_227 cl_7_118 (m7_faulty h0 rs.2.2.1) sp_M (by decide) rfl (Nat.le_of_ble_eq_true rfl) (by decide) ?_
                refine g_goto d_X7_reads_230 ?_
                exact lp_rx (fy_of rs (k := 1) (by decide)) ⟨rfl, _, rfl, fy_of rs (k := 1) (by decide)⟩ _ _
              · have hl2 := tk7_1.mp (nI_inj (b := 1) c143 (by omega) (by decide))
                have hlt2 : tkC b L p < 256 := by omega
                refine g_aload_n d_X7_reads_146 rfl ?_
                refine mm_getV (v := nI (tkC b L p)) d_X7_reads_147 fl_7_102 sp_M rfl (rs.2.2.2.2.2.2 hlt2) ?_
                refine g_bipush d_X7_reads_150 bk_98 ?_
                refine g_icmp_ne d_X7_reads_152 (fun c152 => ?_) (fun c152 => ?_)
                · refine g_iconst d_X7_reads_168 ik_0 ?_
                  refine w_istore_n (L' := [_, _, _]) d_X7_reads_169 rfl rfl rfl ?_
                  refine g_iload_n d_X7_reads_170 rfl ?_
                  refine g_if_eq d_X7_reads_171 (fun c171 => ?_) (fun c171 => absurd c171 (by decide))
                  refine g_iload_n d_X7_reads_191 rfl ?_
                  refine g_if_eq d_X7_reads_192 (fun c192 => ?_) (fun c192 => absurd c192 (by decide))
                  refine g_aload_n d_X7_reads_213 rfl ?_
                  refine g_iload_n d_X7_reads_214 rfl ?_
                  refine g_if_ne d_X7_reads_215 (fun c215 => absurd c215 (by decide)) (fun c215 => ?_)
                  refine g_iload_n d_X7_reads_218 rfl ?_
                  refine g_if_eq d_X7_reads_219 (fun c219 => ?_) (fun c219 => absurd c219 (by decide))
                  refine g_iconst d_X7_reads_226 ik_1 ?_
                  refine h_V1v d_X7_reads_227 cl_7_118 (m7_faulty h0 rs.2.2.1) sp_M (by decide) rfl (Nat.le_of_ble_eq_true rfl) (by decide) ?_
                  refine g_goto d_X7_reads_230 ?_
                  exact lp_rx (fy_of rs (k := 1) (by decide)) ⟨rfl, _, rfl, fy_of rs (k := 1) (by decide)⟩ _ _
                · exact absurd (nI_inj (b := 98) c152 (by omega) (by decide)) hz
            · refine g_aload_n d_X7_reads_123 rfl ?_
              refine h_getR d_X7_reads_124 fl_7_22 sp_M rfl ?_
              refine g_iconst d_X7_reads_127 ik_1 ?_
              refine mm_aldV (k := 1) (v := nI N) d_X7_reads_128 (j := 5) sp_m_draft rfl (by decide) rfl (by omega) (by decide) (dr.2.1) ?_
              refine g_if_ne d_X7_reads_129 (fun c129 => ?_) (fun c129 => ?_)
              · refine g_iconst d_X7_reads_136 ik_0 ?_
                refine w_istore_n (L' := [_, _, _]) d_X7_reads_137 rfl rfl rfl ?_
                refine g_aload_n d_X7_reads_138 rfl ?_
                refine mm_getV (v := nI (tk7 (tkC b L p))) d_X7_reads_139 fl_7_105 sp_M rfl (rs.2.2.2.2.1) ?_
                refine g_iconst d_X7_reads_142 ik_1 ?_
                refine g_icmp_ne d_X7_reads_143 (fun c143 => ?_) (fun c143 => ?_)
                · refine g_iconst d_X7_reads_168 ik_0 ?_
                  refine w_istore_n (L' := [_, _, _]) d_X7_reads_169 rfl rfl rfl ?_
                  refine g_iload_n d_X7_reads_170 rfl ?_
                  refine g_if_eq d_X7_reads_171 (fun c171 => ?_) (fun c171 => absurd c171 (by decide))
                  refine g_iload_n d_X7_reads_191 rfl ?_
                  refine g_if_eq d_X7_reads_192 (fun c192 => ?_) (fun c192 => absurd c192 (by decide))
                  refine g_aload_n d_X7_reads_213 rfl ?_
                  refine g_iload_n d_X7_reads_214 rfl ?_
                  refine g_if_ne d_X7_reads_215 (fun c215 => absurd c215 (by decide)) (fun c215 => ?_)
                  refine g_iload_n d_X7_reads_218 rfl ?_
                  refine g_if_eq d_X7_reads_219 (fun c219 => ?_) (fun c219 => absurd c219 (by decide))
                  refine g_iconst d_X7_reads_226 ik_1 ?_
                  refine h_V1v d_X7_reads_227 cl_7_118 (m7_faulty h0 rs.2.2.1) sp_M (by decide) rfl (Nat.le_of_ble_eq_true rfl) (by decide) ?_
                  refine g_goto d_X7_reads_230 ?_
                  exact lp_rx (fy_of rs (k := 1) (by decide)) ⟨rfl, _, rfl, fy_of rs (k := 1) (by decide)⟩ _ _
                · have hl2 := tk7_1.mp (nI_inj (b := 1) c143 (by omega) (by decide))
                  have hlt2 : tkC b L p < 256 := by omega
                  refine g_aload_n d_X7_reads_146 rfl ?_
                  refine mm_getV (v := nI (tkC b L p)) d_X7_reads_147 fl_7_102 sp_M rfl (rs.2.2.2.2.2.2 hlt2) ?_
                  refine g_bipush d_X7_reads_150 bk_98 ?_
                  refine g_icmp_ne d_X7_reads_152 (fun c152 => ?_) (fun c152 => ?_)
                  · refine g_iconst d_X7_reads_168 ik_0 ?_
                    refine w_istore_n (L' := [_, _, _]) d_X7_reads_169 rfl rfl rfl ?_
                    refine g_iload_n d_X7_reads_170 rfl ?_
                    refine g_if_eq d_X7_reads_171 (fun c171 => ?_) (fun c171 => absurd c171 (by decide))
                    refine g_iload_n d_X7_reads_191 rfl ?_
                    refine g_if_eq d_X7_reads_192 (fun c192 => ?_) (fun c192 => absurd c192 (by decide))
                    refine g_aload_n d_X7_reads_213 rfl ?_
                    refine g_iload_n d_X7_reads_214 rfl ?_
                    refine g_if_ne d_X7_reads_215 (fun c215 => absurd c215 (by decide)) (fun c215 => ?_)
                    refine g_iload_n d_X7_reads_218 rfl ?_
                    refine g_if_eq d_X7_reads_219 (fun c219 => ?_) (fun c219 => absurd c219 (by decide))
                    refine g_iconst d_X7_reads_226 ik_1 ?_
                    refine h_V1v d_X7_reads_227 cl_7_118 (m7_faulty h0 rs.2.2.1) sp_M (by decide) rfl (Nat.le_of_ble_eq_true rfl) (by decide) ?_
                    refine g_goto d_X7_reads_230 ?_
                    exact lp_rx (fy_of rs (k := 1) (by decide)) ⟨rfl, _, rfl, fy_of rs (k := 1) (by decide)⟩ _ _
                  · exact absurd (nI_inj (b := 98) c152 (by omega) (by decide)) hz
              · exfalso
                rcases Nat.eq_zero_or_pos N with z | z
                · rw [hk0 z] at c120; exact c120 (by decide)
                · exact nI_ne0 z (by omega) c129
        · refine g_aload_n d_X7_reads_96 rfl ?_
          refine h_getR d_X7_reads_97 fl_7_22 sp_M rfl ?_
          refine g_iconst d_X7_reads_100 ik_1 ?_
          refine mm_aldV (k := 1) (v := nI N) d_X7_reads_101 (j := 5) sp_m_draft rfl (by decide) rfl (by omega) (by decide) (dr.2.1) ?_
          refine g_if_gt d_X7_reads_102 (fun c102 => ?_) (fun c102 => ?_)
          · exact absurd ⟨by rcases Nat.eq_zero_or_pos N with z | z; rw [z] at c102; exact absurd c102 (by decide); exact z, tk7_0.mp (nI_inj (b := 0) c93 (by omega) (by decide))⟩ hw
          · refine g_aload_n d_X7_reads_105 rfl ?_
            refine mm_getV (v := nI (tk7 (tkC b L p))) d_X7_reads_106 fl_7_105 sp_M rfl (rs.2.2.2.2.1) ?_
            refine g_iconst d_X7_reads_109 ik_1 ?_
            refine g_icmp_ne d_X7_reads_110 (fun c110 => ?_) (fun c110 => ?_)
            · refine g_iconst d_X7_reads_136 ik_0 ?_
              refine w_istore_n (L' := [_, _, _]) d_X7_reads_137 rfl rfl rfl ?_
              refine g_aload_n d_X7_reads_138 rfl ?_
              refine mm_getV (v := nI (tk7 (tkC b L p))) d_X7_reads_139 fl_7_105 sp_M rfl (rs.2.2.2.2.1) ?_
              refine g_iconst d_X7_reads_142 ik_1 ?_
              refine g_icmp_ne d_X7_reads_143 (fun c143 => ?_) (fun c143 => ?_)
              · refine g_iconst d_X7_reads_168 ik_0 ?_
                refine w_istore_n (L' := [_, _, _]) d_X7_reads_169 rfl rfl rfl ?_
                refine g_iload_n d_X7_reads_170 rfl ?_
                refine g_if_eq d_X7_reads_171 (fun c171 => ?_) (fun c171 => absurd c171 (by decide))
                refine g_iload_n d_X7_reads_191 rfl ?_
                refine g_if_eq d_X7_reads_192 (fun c192 => ?_) (fun c192 => absurd c192 (by decide))
                refine g_aload_n d_X7_reads_213 rfl ?_
                refine g_iload_n d_X7_reads_214 rfl ?_
                refine g_if_ne d_X7_reads_215 (fun c215 => absurd c215 (by decide)) (fun c215 => ?_)
                refine g_iload_n d_X7_reads_218 rfl ?_
                refine g_if_eq d_X7_reads_219 (fun c219 => ?_) (fun c219 => absurd c219 (by decide))
                refine g_iconst d_X7_reads_226 ik_1 ?_
                refine h_V1v d_X7_reads_227 cl_7_118 (m7_faulty h0 rs.2.2.1) sp_M (by decide) rfl (Nat.le_of_ble_eq_true rfl) (by decide) ?_
                refine g_goto d_X7_reads_230 ?_
                exact lp_rx (fy_of rs (k := 1) (by decide)) ⟨rfl, _, rfl, fy_of rs (k := 1) (by decide)⟩ _ _
              · have hl2 := tk7_1.mp (nI_inj (b := 1) c143 (by omega) (by decide))
                have hlt2 : tkC b L p < 256 := by omega
                refine g_aload_n d_X7_reads_146 rfl ?_
                refine mm_getV (v := nI (tkC b L p)) d_X7_reads_147 fl_7_102 sp_M rfl (rs.2.2.2.2.2.2 hlt2) ?_
                refine g_bipush d_X7_reads_150 bk_98 ?_
                refine g_icmp_ne d_X7_reads_152 (fun c152 => ?_) (fun c152 => ?_)
                · refine g_iconst d_X7_reads_168 ik_0 ?_
                  refine w_istore_n (L' := [_, _, _]) d_X7_reads_169 rfl rfl rfl ?_
                  refine g_iload_n d_X7_reads_170 rfl ?_
                  refine g_if_eq d_X7_reads_171 (fun c171 => ?_) (fun c171 => absurd c171 (by decide))
                  refine g_iload_n d_X7_reads_191 rfl ?_
                  refine g_if_eq d_X7_reads_192 (fun c192 => ?_) (fun c192 => absurd c192 (by decide))
                  refine g_aload_n d_X7_reads_213 rfl ?_
                  refine g_iload_n d_X7_reads_214 rfl ?_
                  refine g_if_ne d_X7_reads_215 (fun c215 => absurd c215 (by decide)) (fun c215 => ?_)
                  refine g_iload_n d_X7_reads_218 rfl ?_
                  refine g_if_eq d_X7_reads_219 (fun c219 => ?_) (fun c219 => absurd c219 (by decide))
                  refine g_iconst d_X7_reads_226 ik_1 ?_
                  refine h_V1v d_X7_reads_227 cl_7_118 (m7_faulty h0 rs.2.2.1) sp_M (by decide) rfl (Nat.le_of_ble_eq_true rfl) (by decide) ?_
                  refine g_goto d_X7_reads_230 ?_
                  exact lp_rx (fy_of rs (k := 1) (by decide)) ⟨rfl, _, rfl, fy_of rs (k := 1) (by decide)⟩ _ _
                · exact absurd (nI_inj (b := 98) c152 (by omega) (by decide)) hz
            · have hl1 := tk7_1.mp (nI_inj (b := 1) c110 (by omega) (by decide))
              have hlt : tkC b L p < 256 := by omega
              refine g_aload_n d_X7_reads_113 rfl ?_
              refine mm_getV (v := nI (tkC b L p)) d_X7_reads_114 fl_7_102 sp_M rfl (rs.2.2.2.2.2.2 hlt) ?_
              refine h_S1i d_X7_reads_117 cl_7_125 (m7_kindOf (by omega)) (Nat.le_of_ble_eq_true rfl) (by decide) ?_
              refine g_if_le d_X7_reads_120 (fun c120 => ?_) (fun c120 => ?_)
              · refine g_iconst d_X7_reads_136 ik_0 ?_
                refine w_istore_n (L' := [_, _, _]) d_X7_reads_137 rfl rfl rfl ?_
                refine g_aload_n d_X7_reads_138 rfl ?_
                refine mm_getV (v := nI (tk7 (tkC b L p))) d_X7_reads_139 fl_7_105 sp_M rfl (rs.2.2.2.2.1) ?_
                refine g_iconst d_X7_reads_142 ik_1 ?_
                refine g_icmp_ne d_X7_reads_143 (fun c143 => ?_) (fun c143 => ?_)
                · refine g_iconst d_X7_reads_168 ik_0 ?_
                  refine w_istore_n (L' := [_, _, _]) d_X7_reads_169 rfl rfl rfl ?_
                  refine g_iload_n d_X7_reads_170 rfl ?_
                  refine g_if_eq d_X7_reads_171 (fun c171 => ?_) (fun c171 => absurd c171 (by decide))
                  refine g_iload_n d_X7_reads_191 rfl ?_
                  refine g_if_eq d_X7_reads_192 (fun c192 => ?_) (fun c192 => absurd c192 (by decide))
                  refine g_aload_n d_X7_reads_213 rfl ?_
                  refine g_iload_n d_X7_reads_214 rfl ?_
                  refine g_if_ne d_X7_reads_215 (fun c215 => absurd c215 (by decide)) (fun c215 => ?_)
                  refine g_iload_n d_X7_reads_218 rfl ?_
                  refine g_if_eq d_X7_reads_219 (fun c219 => ?_) (fun c219 => absurd c219 (by decide))
                  refine g_iconst d_X7_reads_226 ik_1 ?_
                  refine h_V1v d_X7_reads_227 cl_7_118 (m7_faulty h0 rs.2.2.1) sp_M (by decide) rfl (Nat.le_of_ble_eq_true rfl) (by decide) ?_
                  refine g_goto d_X7_reads_230 ?_
                  exact lp_rx (fy_of rs (k := 1) (by decide)) ⟨rfl, _, rfl, fy_of rs (k := 1) (by decide)⟩ _ _
                · have hl2 := tk7_1.mp (nI_inj (b := 1) c143 (by omega) (by decide))
                  have hlt2 : tkC b L p < 256 := by omega
                  refine g_aload_n d_X7_reads_146 rfl ?_
                  refine mm_getV (v := nI (tkC b L p)) d_X7_reads_147 fl_7_102 sp_M rfl (rs.2.2.2.2.2.2 hlt2) ?_
                  refine g_bipush d_X7_reads_150 bk_98 ?_
                  refine g_icmp_ne d_X7_reads_152 (fun c152 => ?_) (fun c152 => ?_)
                  · refine g_iconst d_X7_reads_168 ik_0 ?_
                    refine w_istore_n (L' := [_, _, _]) d_X7_reads_169 rfl rfl rfl ?_
                    refine g_iload_n d_X7_reads_170 rfl ?_
                    refine g_if_eq d_X7_reads_171 (fun c171 => ?_) (fun c171 => absurd c171 (by decide))
                    refine g_iload_n d_X7_reads_191 rfl ?_
                    refine g_if_eq d_X7_reads_192 (fun c192 => ?_) (fun c192 => absurd c192 (by decide))
                    refine g_aload_n d_X7_reads_213 rfl ?_
                    refine g_iload_n d_X7_reads_214 rfl ?_
                    refine g_if_ne d_X7_reads_215 (fun c215 => absurd c215 (by decide)) (fun c215 => ?_)
                    refine g_iload_n d_X7_reads_218 rfl ?_
                    refine g_if_eq d_X7_reads_219 (fun c219 => ?_) (fun c219 => absurd c219 (by decide))
                    refine g_iconst d_X7_reads_226 ik_1 ?_
                    refine h_V1v d_X7_reads_227 cl_7_118 (m7_faulty h0 rs.2.2.1) sp_M (by decide) rfl (Nat.le_of_ble_eq_true rfl) (by decide) ?_
                    refine g_goto d_X7_reads_230 ?_
                    exact lp_rx (fy_of rs (k := 1) (by decide)) ⟨rfl, _, rfl, fy_of rs (k := 1) (by decide)⟩ _ _
                  · exact absurd (nI_inj (b := 98) c152 (by omega) (by decide)) hz
              · refine g_aload_n d_X7_reads_123 rfl ?_
                refine h_getR d_X7_reads_124 fl_7_22 sp_M rfl ?_
                refine g_iconst d_X7_reads_127 ik_1 ?_
                refine mm_aldV (k := 1) (v := nI N) d_X7_reads_128 (j := 5) sp_m_draft rfl (by decide) rfl (by omega) (by decide) (dr.2.1) ?_
                refine g_if_ne d_X7_reads_129 (fun c129 => ?_) (fun c129 => ?_)
                · refine g_iconst d_X7_reads_136 ik_0 ?_
                  refine w_istore_n (L' := [_, _, _]) d_X7_reads_137 rfl rfl rfl ?_
                  refine g_aload_n d_X7_reads_138 rfl ?_
                  refine mm_getV (v := nI (tk7 (tkC b L p))) d_X7_reads_139 fl_7_105 sp_M rfl (rs.2.2.2.2.1) ?_
                  refine g_iconst d_X7_reads_142 ik_1 ?_
                  refine g_icmp_ne d_X7_reads_143 (fun c143 => ?_) (fun c143 => ?_)
                  · refine g_iconst d_X7_reads_168 ik_0 ?_
                    refine w_istore_n (L' := [_, _, _]) d_X7_reads_169 rfl rfl rfl ?_
                    refine g_iload_n d_X7_reads_170 rfl ?_
                    refine g_if_eq d_X7_reads_171 (fun c171 => ?_) (fun c171 => absurd c171 (by decide))
                    refine g_iload_n d_X7_reads_191 rfl ?_
                    refine g_if_eq d_X7_reads_192 (fun c192 => ?_) (fun c192 => absurd c192 (by decide))
                    refine g_aload_n d_X7_reads_213 rfl ?_
                    refine g_iload_n d_X7_reads_214 rfl ?_
                    refine g_if_ne d_X7_reads_215 (fun c215 => absurd c215 (by decide)) (fun c215 => ?_)
                    refine g_iload_n d_X7_reads_218 rfl ?_
                    refine g_if_eq d_X7_reads_219 (fun c219 => ?_) (fun c219 => absurd c219 (by decide))
                    refine g_iconst d_X7_reads_226 ik_1 ?_
                    refine h_V1v d_X7_reads_227 cl_7_118 (m7_faulty h0 rs.2.2.1) sp_M (by decide) rfl (Nat.le_of_ble_eq_true rfl) (by decide) ?_
                    refine g_goto d_X7_reads_230 ?_
                    exact lp_rx (fy_of rs (k := 1) (by decide)) ⟨rfl, _, rfl, fy_of rs (k := 1) (by decide)⟩ _ _
                  · have hl2 := tk7_1.mp (nI_inj (b := 1) c143 (by omega) (by decide))
                    have hlt2 : tkC b L p < 256 := by omega
                    refine g_aload_n d_X7_reads_146 rfl ?_
                    refine mm_getV (v := nI (tkC b L p)) d_X7_reads_147 fl_7_102 sp_M rfl (rs.2.2.2.2.2.2 hlt2) ?_
                    refine g_bipush d_X7_reads_150 bk_98 ?_
                    refine g_icmp_ne d_X7_reads_152 (fun c152 => ?_) (fun c152 => ?_)
                    · refine g_iconst d_X7_reads_168 ik_0 ?_
                      refine w_istore_n (L' := [_, _, _]) d_X7_reads_169 rfl rfl rfl ?_
                      refine g_iload_n d_X7_reads_170 rfl ?_
                      refine g_if_eq d_X7_reads_171 (fun c171 => ?_) (fun c171 => absurd c171 (by decide))
                      refine g_iload_n d_X7_reads_191 rfl ?_
                      refine g_if_eq d_X7_reads_192 (fun c192 => ?_) (fun c192 => absurd c192 (by decide))
                      refine g_aload_n d_X7_reads_213 rfl ?_
                      refine g_iload_n d_X7_reads_214 rfl ?_
                      refine g_if_ne d_X7_reads_215 (fun c215 => absurd c215 (by decide)) (fun c215 => ?_)
                      refine g_iload_n d_X7_reads_218 rfl ?_
                      refine g_if_eq d_X7_reads_219 (fun c219 => ?_) (fun c219 => absurd c219 (by decide))
                      refine g_iconst d_X7_reads_226 ik_1 ?_
                      refine h_V1v d_X7_reads_227 cl_7_118 (m7_faulty h0 rs.2.2.1) sp_M (by decide) rfl (Nat.le_of_ble_eq_true rfl) (by decide) ?_
                      refine g_goto d_X7_reads_230 ?_
                      exact lp_rx (fy_of rs (k := 1) (by decide)) ⟨rfl, _, rfl, fy_of rs (k := 1) (by decide)⟩ _ _
                    · exact absurd (nI_inj (b := 98) c152 (by omega) (by decide)) hz
                · exfalso
                  rcases Nat.eq_zero_or_pos N with z | z
                  · rw [hk0 z] at c120; exact c120 (by decide)
                  · exact nI_ne0 z (by omega) c129
  | succ f ih =>
    intro N p g w1 hf rs h0 dr hM0 hM5 hk0 y1 y2
    have hC := tkC_lt (p := p) (fun k hk => (rs.1.2.2 k hk).2)
    have ht7 := tk7_lt (tkC b L p)
    have hkn := kindN_lt (tkC b L p)
    by_cases hz : tkC b L p = 98
    · have t1 : tk7 (tkC b L p) = 1 := tk7_1.mpr (by omega)
      refine g_aload_n d_X7_reads_82 rfl ?_
      refine h_V0i d_X7_reads_83 cl_7_111 (m7_isWell h0) sp_M (by decide) rfl (Nat.le_of_ble_eq_true rfl) (by decide) ?_
      refine g_if_eq d_X7_reads_86 (fun c86 => absurd c86 (by decide)) (fun c86 => ?_)
      refine g_aload_n d_X7_reads_89 rfl ?_
      refine mm_getV (v := nI (tk7 (tkC b L p))) d_X7_reads_90 fl_7_105 sp_M rfl (rs.2.2.2.2.1) ?_
      refine g_if_ne d_X7_reads_93 (fun c93 => ?_) (fun c93 => absurd c93 (by rw [t1]; decide))
      refine g_aload_n d_X7_reads_105 rfl ?_
      refine mm_getV (v := nI (tk7 (tkC b L p))) d_X7_reads_106 fl_7_105 sp_M rfl (rs.2.2.2.2.1) ?_
      refine g_iconst d_X7_reads_109 ik_1 ?_
      refine g_icmp_ne d_X7_reads_110 (fun c110 => absurd (show nI (tk7 (tkC b L p)) = 1 by rw [t1]; rfl) c110) (fun c110 => ?_)
      have hl1 := tk7_1.mp (nI_inj (b := 1) c110 (by omega) (by decide))
      have hlt : tkC b L p < 256 := by omega
      refine g_aload_n d_X7_reads_113 rfl ?_
      refine mm_getV (v := nI (tkC b L p)) d_X7_reads_114 fl_7_102 sp_M rfl (rs.2.2.2.2.2.2 hlt) ?_
      refine h_S1i d_X7_reads_117 cl_7_125 (m7_kindOf (by omega)) (Nat.le_of_ble_eq_true rfl) (by decide) ?_
      refine g_if_le d_X7_reads_120 (fun c120 => ?_) (fun c120 => absurd (show nI (kindN (tkC b L p)) ≤ 0 by rw [hz]; decide) c120)
      refine g_iconst d_X7_reads_136 ik_0 ?_
      refine w_istore_n (L' := [_, _, _]) d_X7_reads_137 rfl rfl rfl ?_
      refine g_aload_n d_X7_reads_138 rfl ?_
      refine mm_getV (v := nI (tk7 (tkC b L p))) d_X7_reads_139 fl_7_105 sp_M rfl (rs.2.2.2.2.1) ?_
      refine g_iconst d_X7_reads_142 ik_1 ?_
      refine g_icmp_ne d_X7_reads_143 (fun c143 => absurd (show nI (tk7 (tkC b L p)) = 1 by rw [t1]; rfl) c143) (fun c143 => ?_)
      have hl2 := tk7_1.mp (nI_inj (b := 1) c143 (by omega) (by decide))
      have hlt2 : tkC b L p < 256 := by omega
      refine g_aload_n d_X7_reads_146 rfl ?_
      refine mm_getV (v := nI (tkC b L p)) d_X7_reads_147 fl_7_102 sp_M rfl (rs.2.2.2.2.2.2 hlt2) ?_
      refine g_bipush d_X7_reads_150 bk_98 ?_
      refine g_icmp_ne d_X7_reads_152 (fun c152 => absurd (show nI (tkC b L p) = 98 by rw [hz]; rfl) c152) (fun c152 => ?_)
      refine g_aload_n d_X7_reads_155 rfl ?_
      refine h_getR d_X7_reads_156 fl_7_22 sp_M rfl ?_
      refine g_iconst d_X7_reads_159 ik_0 ?_
      refine mm_aldV (k := 0) (v := nI M) d_X7_reads_160 (j := 5) sp_m_draft rfl (by decide) rfl (by omega) (by decide) (dr.1) ?_
      refine g_if_le d_X7_reads_161 (fun c161 => absurd c161 (nI_ge (a := 0) (b := M) hM0 (by omega))) (fun c161 => ?_)
      refine g_iconst d_X7_reads_164 ik_1 ?_
      refine g_goto d_X7_reads_165 ?_
      refine w_istore_n (L' := [_, _, _]) d_X7_reads_169 rfl rfl rfl ?_
      refine g_iload_n d_X7_reads_170 rfl ?_
      refine g_if_eq d_X7_reads_171 (fun c171 => ?_) (fun c171 => absurd c171 (by decide))
      refine g_iload_n d_X7_reads_191 rfl ?_
      refine g_if_eq d_X7_reads_192 (fun c192 => absurd c192 (by decide)) (fun c192 => ?_)
      refine g_aload_n d_X7_reads_195 rfl ?_
      refine h_getR d_X7_reads_196 fl_7_22 sp_M rfl ?_
      refine g_iconst d_X7_reads_199 ik_1 ?_
      refine mm_aldV (k := 1) (v := nI N) d_X7_reads_200 (j := 5) sp_m_draft rfl (by decide) rfl (by omega) (by decide) (dr.2.1) ?_
      refine g_bipush d_X7_reads_201 bk_6 ?_
      refine g_icmp_ge d_X7_reads_203 (fun c203 => absurd c203 (nI_ge (a := N) (b := 6) (by omega) (by omega))) (fun c203 => ?_)
      refine g_aload_n d_X7_reads_206 rfl ?_
      refine h_V0P d_X7_reads_207 cl_7_139 (m7_readsLoad rs h0 dr.2.1 (by omega)) sp_M (by decide) rfl (Nat.le_of_ble_eq_true rfl) (by decide) ?_
      intro u1 k1 hp1
      obtain ⟨rfl, wa, rfl, hp1⟩ := hp1
      cases hq1 : pLoad b L p with
      | error e =>
        rw [hq1] at hp1
        rw [show pLs b L (f + 1 + 1) N p g = .error e by rw [pLs, if_pos hz, if_neg (by omega), hq1]]
        refine g_goto d_X7_reads_210 ?_
        refine g_goto d_X7_reads_230 ?_
        exact lp_rx hp1 ⟨rfl, _, rfl, hp1⟩ _ _
      | ok r1 =>
        obtain ⟨v1, v2, q1⟩ := r1
        rw [hq1] at hp1
        obtain ⟨f1, r1', z1, k1, k2, k3, k4, k5⟩ := hp1
        rw [show pLs b L (f + 1 + 1) N p g = pLs b L (f + 1) (N + 1) q1 (addL g N (nI v1) (nI v2)) by rw [pLs, if_pos hz, if_neg (by omega), hq1]]
        refine g_goto d_X7_reads_210 ?_
        refine g_goto d_X7_reads_230 ?_
        refine h_weaken (ih (N + 1) q1 _ wa (by omega) r1' z1 (dr.addL k1 k2 k3 k4 k5 (by omega)) hM0 hM5 (fun z => absurd z (by omega)) _ _) ?_
        intro v' h' hp
        obtain ⟨rfl, w2, rfl, hp⟩ := hp
        refine ⟨rfl, w2, rfl, ?_⟩
        cases hx : pLs b L (f + 1) (N + 1) q1 (addL g N (nI v1) (nI v2)) with
        | error e => rw [hx] at hp; exact f1.fy hp
        | ok r =>
          obtain ⟨N', g'⟩ := r
          rw [hx] at hp
          exact ⟨f1.tr hp.1, hp.2.1, hp.2.2⟩
    · by_cases hw : 0 < N ∧ tkC b L p = 257
      · rw [show pLs b L (f + 1 + 1) N p g = .ok (N, g) by rw [pLs, if_neg hz, if_pos hw]]
        refine g_aload_n d_X7_reads_82 rfl ?_
        refine h_V0i d_X7_reads_83 cl_7_111 (m7_isWell h0) sp_M (by decide) rfl (Nat.le_of_ble_eq_true rfl) (by decide) ?_
        refine g_if_eq d_X7_reads_86 (fun c86 => absurd c86 (by decide)) (fun c86 => ?_)
        refine g_aload_n d_X7_reads_89 rfl ?_
        refine mm_getV (v := nI (tk7 (tkC b L p))) d_X7_reads_90 fl_7_105 sp_M rfl (rs.2.2.2.2.1) ?_
        refine g_if_ne d_X7_reads_93 (fun c93 => absurd (show nI (tk7 (tkC b L p)) = 0 by rw [tk7_0.mpr hw.2]; rfl) c93) (fun c93 => ?_)
        refine g_aload_n d_X7_reads_96 rfl ?_
        refine h_getR d_X7_reads_97 fl_7_22 sp_M rfl ?_
        refine g_iconst d_X7_reads_100 ik_1 ?_
        refine mm_aldV (k := 1) (v := nI N) d_X7_reads_101 (j := 5) sp_m_draft rfl (by decide) rfl (by omega) (by decide) (dr.2.1) ?_
        refine g_if_gt d_X7_reads_102 (fun c102 => ?_) (fun c102 => absurd (show (0 : Int32) < nI N from (nI_ltI (a := 0) (b := N) (by decide) (by omega)).mpr hw.1) c102)
        refine h_vret d_X7_reads_233 rfl ?_
        exact ⟨rfl, w1, rfl, FrD.rf, h0, dr⟩
      · rw [show pLs b L (f + 1 + 1) N p g = .error (1, p) by rw [pLs, if_neg hz, if_neg hw]]
        refine g_aload_n d_X7_reads_82 rfl ?_
        refine h_V0i d_X7_reads_83 cl_7_111 (m7_isWell h0) sp_M (by decide) rfl (Nat.le_of_ble_eq_true rfl) (by decide) ?_
        refine g_if_eq d_X7_reads_86 (fun c86 => absurd c86 (by decide)) (fun c86 => ?_)
        refine g_aload_n d_X7_reads_89 rfl ?_
        refine mm_getV (v := nI (tk7 (tkC b L p))) d_X7_reads_90 fl_7_105 sp_M rfl (rs.2.2.2.2.1) ?_
        refine g_if_ne d_X7_reads_93 (fun c93 => ?_) (fun c93 => ?_)
        · refine g_aload_n d_X7_reads_105 rfl ?_
          refine mm_getV (v := nI (tk7 (tkC b L p))) d_X7_reads_106 fl_7_105 sp_M rfl (rs.2.2.2.2.1) ?_
          refine g_iconst d_X7_reads_109 ik_1 ?_
          refine g_icmp_ne d_X7_reads_110 (fun c110 => ?_) (fun c110 => ?_)
          · refine g_iconst d_X7_reads_136 ik_0 ?_
            refine w_istore_n (L' := [_, _, _]) d_X7_reads_137 rfl rfl rfl ?_
            refine g_aload_n d_X7_reads_138 rfl ?_
            refine mm_getV (v := nI (tk7 (tkC b L p))) d_X7_reads_139 fl_7_105 sp_M rfl (rs.2.2.2.2.1) ?_
            refine g_iconst d_X7_reads_142 ik_1 ?_
            refine g_icmp_ne d_X7_reads_143 (fun c143 => ?_) (fun c143 => ?_)
            · refine g_iconst d_X7_reads_168 ik_0 ?_
              refine w_istore_n (L' := [_, _, _]) d_X7_reads_169 rfl rfl rfl ?_
              refine g_iload_n d_X7_reads_170 rfl ?_
              refine g_if_eq d_X7_reads_171 (fun c171 => ?_) (fun c171 => absurd c171 (by decide))
              refine g_iload_n d_X7_reads_191 rfl ?_
              refine g_if_eq d_X7_reads_192 (fun c192 => ?_) (fun c192 => absurd c192 (by decide))
              refine g_aload_n d_X7_reads_213 rfl ?_
              refine g_iload_n d_X7_reads_214 rfl ?_
              refine g_if_ne d_X7_reads_215 (fun c215 => absurd c215 (by decide)) (fun c215 => ?_)
              refine g_iload_n d_X7_reads_218 rfl ?_
              refine g_if_eq d_X7_reads_219 (fun c219 => ?_) (fun c219 => absurd c219 (by decide))
              refine g_iconst d_X7_reads_226 ik_1 ?_
              refine h_V1v d_X7_reads_227 cl_7_118 (m7_faulty h0 rs.2.2.1) sp_M (by decide) rfl (Nat.le_of_ble_eq_true rfl) (by decide) ?_
              refine g_goto d_X7_reads_230 ?_
              exact lp_rx (fy_of rs (k := 1) (by decide)) ⟨rfl, _, rfl, fy_of rs (k := 1) (by decide)⟩ _ _
            · have hl2 := tk7_1.mp (nI_inj (b := 1) c143 (by omega) (by decide))
              have hlt2 : tkC b L p < 256 := by omega
              refine g_aload_n d_X7_reads_146 rfl ?_
              refine mm_getV (v := nI (tkC b L p)) d_X7_reads_147 fl_7_102 sp_M rfl (rs.2.2.2.2.2.2 hlt2) ?_
              refine g_bipush d_X7_reads_150 bk_98 ?_
              refine g_icmp_ne d_X7_reads_152 (fun c152 => ?_) (fun c152 => ?_)
              · refine g_iconst d_X7_reads_168 ik_0 ?_
                refine w_istore_n (L' := [_, _, _]) d_X7_reads_169 rfl rfl rfl ?_
                refine g_iload_n d_X7_reads_170 rfl ?_
                refine g_if_eq d_X7_reads_171 (fun c171 => ?_) (fun c171 => absurd c171 (by decide))
                refine g_iload_n d_X7_reads_191 rfl ?_
                refine g_if_eq d_X7_reads_192 (fun c192 => ?_) (fun c192 => absurd c192 (by decide))
                refine g_aload_n d_X7_reads_213 rfl ?_
                refine g_iload_n d_X7_reads_214 rfl ?_
                refine g_if_ne d_X7_reads_215 (fun c215 => absurd c215 (by decide)) (fun c215 => ?_)
                refine g_iload_n d_X7_reads_218 rfl ?_
                refine g_if_eq d_X7_reads_219 (fun c219 => ?_) (fun c219 => absurd c219 (by decide))
                refine g_iconst d_X7_reads_226 ik_1 ?_
                refine h_V1v d_X7_reads_227 cl_7_118 (m7_faulty h0 rs.2.2.1) sp_M (by decide) rfl (Nat.le_of_ble_eq_true rfl) (by decide) ?_
                refine g_goto d_X7_reads_230 ?_
                exact lp_rx (fy_of rs (k := 1) (by decide)) ⟨rfl, _, rfl, fy_of rs (k := 1) (by decide)⟩ _ _
              · exact absurd (nI_inj (b := 98) c152 (by omega) (by decide)) hz
          · have hl1 := tk7_1.mp (nI_inj (b := 1) c110 (by omega) (by decide))
            have hlt : tkC b L p < 256 := by omega
            refine g_aload_n d_X7_reads_113 rfl ?_
            refine mm_getV (v := nI (tkC b L p)) d_X7_reads_114 fl_7_102 sp_M rfl (rs.2.2.2.2.2.2 hlt) ?_
            refine h_S1i d_X7_reads_117 cl_7_125 (m7_kindOf (by omega)) (Nat.le_of_ble_eq_true rfl) (by decide) ?_
            refine g_if_le d_X7_reads_120 (fun c120 => ?_) (fun c120 => ?_)
            · refine g_iconst d_X7_reads_136 ik_0 ?_
              refine w_istore_n (L' := [_, _, _]) d_X7_reads_137 rfl rfl rfl ?_
              refine g_aload_n d_X7_reads_138 rfl ?_
              refine mm_getV (v := nI (tk7 (tkC b L p))) d_X7_reads_139 fl_7_105 sp_M rfl (rs.2.2.2.2.1) ?_
              refine g_iconst d_X7_reads_142 ik_1 ?_
              refine g_icmp_ne d_X7_reads_143 (fun c143 => ?_) (fun c143 => ?_)
              · refine g_iconst d_X7_reads_168 ik_0 ?_
                refine w_istore_n (L' := [_, _, _]) d_X7_reads_169 rfl rfl rfl ?_
                refine g_iload_n d_X7_reads_170 rfl ?_
                refine g_if_eq d_X7_reads_171 (fun c171 => ?_) (fun c171 => absurd c171 (by decide))
                refine g_iload_n d_X7_reads_191 rfl ?_
                refine g_if_eq d_X7_reads_192 (fun c192 => ?_) (fun c192 => absurd c192 (by decide))
                refine g_aload_n d_X7_reads_213 rfl ?_
                refine g_iload_n d_X7_reads_214 rfl ?_
                refine g_if_ne d_X7_reads_215 (fun c215 => absurd c215 (by decide)) (fun c215 => ?_)
                refine g_iload_n d_X7_reads_218 rfl ?_
                refine g_if_eq d_X7_reads_219 (fun c219 => ?_) (fun c219 => absurd c219 (by decide))
                refine g_iconst d_X7_reads_226 ik_1 ?_
                refine h_V1v d_X7_reads_227 cl_7_118 (m7_faulty h0 rs.2.2.1) sp_M (by decide) rfl (Nat.le_of_ble_eq_true rfl) (by decide) ?_
                refine g_goto d_X7_reads_230 ?_
                exact lp_rx (fy_of rs (k := 1) (by decide)) ⟨rfl, _, rfl, fy_of rs (k := 1) (by decide)⟩ _ _
              · have hl2 := tk7_1.mp (nI_inj (b := 1) c143 (by omega) (by decide))
                have hlt2 : tkC b L p < 256 := by omega
                refine g_aload_n d_X7_reads_146 rfl ?_
                refine mm_getV (v := nI (tkC b L p)) d_X7_reads_147 fl_7_102 sp_M rfl (rs.2.2.2.2.2.2 hlt2) ?_
                refine g_bipush d_X7_reads_150 bk_98 ?_
                refine g_icmp_ne d_X7_reads_152 (fun c152 => ?_) (fun c152 => ?_)
                · refine g_iconst d_X7_reads_168 ik_0 ?_
                  refine w_istore_n (L' := [_, _, _]) d_X7_reads_169 rfl rfl rfl ?_
                  refine g_iload_n d_X7_reads_170 rfl ?_
                  refine g_if_eq d_X7_reads_171 (fun c171 => ?_) (fun c171 => absurd c171 (by decide))
                  refine g_iload_n d_X7_reads_191 rfl ?_
                  refine g_if_eq d_X7_reads_192 (fun c192 => ?_) (fun c192 => absurd c192 (by decide))
                  refine g_aload_n d_X7_reads_213 rfl ?_
                  refine g_iload_n d_X7_reads_214 rfl ?_
                  refine g_if_ne d_X7_reads_215 (fun c215 => absurd c215 (by decide)) (fun c215 => ?_)
                  refine g_iload_n d_X7_reads_218 rfl ?_
                  refine g_if_eq d_X7_reads_219 (fun c219 => ?_) (fun c219 => absurd c219 (by decide))
                  refine g_iconst d_X7_reads_226 ik_1 ?_
                  refine h_V1v d_X7_reads_227 cl_7_118 (m7_faulty h0 rs.2.2.1) sp_M (by decide) rfl (Nat.le_of_ble_eq_true rfl) (by decide) ?_
                  refine g_goto d_X7_reads_230 ?_
                  exact lp_rx (fy_of rs (k := 1) (by decide)) ⟨rfl, _, rfl, fy_of rs (k := 1) (by decide)⟩ _ _
                · exact absurd (nI_inj (b := 98) c152 (by omega) (by decide)) hz
            · refine g_aload_n d_X7_reads_123 rfl ?_
              refine h_getR d_X7_reads_124 fl_7_22 sp_M rfl ?_
              refine g_iconst d_X7_reads_127 ik_1 ?_
              refine mm_aldV (k := 1) (v := nI N) d_X7_reads_128 (j := 5) sp_m_draft rfl (by decide) rfl (by omega) (by decide) (dr.2.1) ?_
              refine g_if_ne d_X7_reads_129 (fun c129 => ?_) (fun c129 => ?_)
              · refine g_iconst d_X7_reads_136 ik_0 ?_
                refine w_istore_n (L' := [_, _, _]) d_X7_reads_137 rfl rfl rfl ?_
                refine g_aload_n d_X7_reads_138 rfl ?_
                refine mm_getV (v := nI (tk7 (tkC b L p))) d_X7_reads_139 fl_7_105 sp_M rfl (rs.2.2.2.2.1) ?_
                refine g_iconst d_X7_reads_142 ik_1 ?_
                refine g_icmp_ne d_X7_reads_143 (fun c143 => ?_) (fun c143 => ?_)
                · refine g_iconst d_X7_reads_168 ik_0 ?_
                  refine w_istore_n (L' := [_, _, _]) d_X7_reads_169 rfl rfl rfl ?_
                  refine g_iload_n d_X7_reads_170 rfl ?_
                  refine g_if_eq d_X7_reads_171 (fun c171 => ?_) (fun c171 => absurd c171 (by decide))
                  refine g_iload_n d_X7_reads_191 rfl ?_
                  refine g_if_eq d_X7_reads_192 (fun c192 => ?_) (fun c192 => absurd c192 (by decide))
                  refine g_aload_n d_X7_reads_213 rfl ?_
                  refine g_iload_n d_X7_reads_214 rfl ?_
                  refine g_if_ne d_X7_reads_215 (fun c215 => absurd c215 (by decide)) (fun c215 => ?_)
                  refine g_iload_n d_X7_reads_218 rfl ?_
                  refine g_if_eq d_X7_reads_219 (fun c219 => ?_) (fun c219 => absurd c219 (by decide))
                  refine g_iconst d_X7_reads_226 ik_1 ?_
                  refine h_V1v d_X7_reads_227 cl_7_118 (m7_faulty h0 rs.2.2.1) sp_M (by decide) rfl (Nat.le_of_ble_eq_true rfl) (by decide) ?_
                  refine g_goto d_X7_reads_230 ?_
                  exact lp_rx (fy_of rs (k := 1) (by decide)) ⟨rfl, _, rfl, fy_of rs (k := 1) (by decide)⟩ _ _
                · have hl2 := tk7_1.mp (nI_inj (b := 1) c143 (by omega) (by decide))
                  have hlt2 : tkC b L p < 256 := by omega
                  refine g_aload_n d_X7_reads_146 rfl ?_
                  refine mm_getV (v := nI (tkC b L p)) d_X7_reads_147 fl_7_102 sp_M rfl (rs.2.2.2.2.2.2 hlt2) ?_
                  refine g_bipush d_X7_reads_150 bk_98 ?_
                  refine g_icmp_ne d_X7_reads_152 (fun c152 => ?_) (fun c152 => ?_)
                  · refine g_iconst d_X7_reads_168 ik_0 ?_
                    refine w_istore_n (L' := [_, _, _]) d_X7_reads_169 rfl rfl rfl ?_
                    refine g_iload_n d_X7_reads_170 rfl ?_
                    refine g_if_eq d_X7_reads_171 (fun c171 => ?_) (fun c171 => absurd c171 (by decide))
                    refine g_iload_n d_X7_reads_191 rfl ?_
                    refine g_if_eq d_X7_reads_192 (fun c192 => ?_) (fun c192 => absurd c192 (by decide))
                    refine g_aload_n d_X7_reads_213 rfl ?_
                    refine g_iload_n d_X7_reads_214 rfl ?_
                    refine g_if_ne d_X7_reads_215 (fun c215 => absurd c215 (by decide)) (fun c215 => ?_)
                    refine g_iload_n d_X7_reads_218 rfl ?_
                    refine g_if_eq d_X7_reads_219 (fun c219 => ?_) (fun c219 => absurd c219 (by decide))
                    refine g_iconst d_X7_reads_226 ik_1 ?_
                    refine h_V1v d_X7_reads_227 cl_7_118 (m7_faulty h0 rs.2.2.1) sp_M (by decide) rfl (Nat.le_of_ble_eq_true rfl) (by decide) ?_
                    refine g_goto d_X7_reads_230 ?_
                    exact lp_rx (fy_of rs (k := 1) (by decide)) ⟨rfl, _, rfl, fy_of rs (k := 1) (by decide)⟩ _ _
                  · exact absurd (nI_inj (b := 98) c152 (by omega) (by decide)) hz
              · exfalso
                rcases Nat.eq_zero_or_pos N with z | z
                · rw [hk0 z] at c120; exact c120 (by decide)
                · exact nI_ne0 z (by omega) c129
        · refine g_aload_n d_X7_reads_96 rfl ?_
          refine h_getR d_X7_reads_97 fl_7_22 sp_M rfl ?_
          refine g_iconst d_X7_reads_100 ik_1 ?_
          refine mm_aldV (k := 1) (v := nI N) d_X7_reads_101 (j := 5) sp_m_draft rfl (by decide) rfl (by omega) (by decide) (dr.2.1) ?_
          refine g_if_gt d_X7_reads_102 (fun c102 => ?_) (fun c102 => ?_)
          · exact absurd ⟨by rcases Nat.eq_zero_or_pos N with z | z; rw [z] at c102; exact absurd c102 (by decide); exact z, tk7_0.mp (nI_inj (b := 0) c93 (by omega) (by decide))⟩ hw
          · refine g_aload_n d_X7_reads_105 rfl ?_
            refine mm_getV (v := nI (tk7 (tkC b L p))) d_X7_reads_106 fl_7_105 sp_M rfl (rs.2.2.2.2.1) ?_
            refine g_iconst d_X7_reads_109 ik_1 ?_
            refine g_icmp_ne d_X7_reads_110 (fun c110 => ?_) (fun c110 => ?_)
            · refine g_iconst d_X7_reads_136 ik_0 ?_
              refine w_istore_n (L' := [_, _, _]) d_X7_reads_137 rfl rfl rfl ?_
              refine g_aload_n d_X7_reads_138 rfl ?_
              refine mm_getV (v := nI (tk7 (tkC b L p))) d_X7_reads_139 fl_7_105 sp_M rfl (rs.2.2.2.2.1) ?_
              refine g_iconst d_X7_reads_142 ik_1 ?_
              refine g_icmp_ne d_X7_reads_143 (fun c143 => ?_) (fun c143 => ?_)
              · refine g_iconst d_X7_reads_168 ik_0 ?_
                refine w_istore_n (L' := [_, _, _]) d_X7_reads_169 rfl rfl rfl ?_
                refine g_iload_n d_X7_reads_170 rfl ?_
                refine g_if_eq d_X7_reads_171 (fun c171 => ?_) (fun c171 => absurd c171 (by decide))
                refine g_iload_n d_X7_reads_191 rfl ?_
                refine g_if_eq d_X7_reads_192 (fun c192 => ?_) (fun c192 => absurd c192 (by decide))
                refine g_aload_n d_X7_reads_213 rfl ?_
                refine g_iload_n d_X7_reads_214 rfl ?_
                refine g_if_ne d_X7_reads_215 (fun c215 => absurd c215 (by decide)) (fun c215 => ?_)
                refine g_iload_n d_X7_reads_218 rfl ?_
                refine g_if_eq d_X7_reads_219 (fun c219 => ?_) (fun c219 => absurd c219 (by decide))
                refine g_iconst d_X7_reads_226 ik_1 ?_
                refine h_V1v d_X7_reads_227 cl_7_118 (m7_faulty h0 rs.2.2.1) sp_M (by decide) rfl (Nat.le_of_ble_eq_true rfl) (by decide) ?_
                refine g_goto d_X7_reads_230 ?_
                exact lp_rx (fy_of rs (k := 1) (by decide)) ⟨rfl, _, rfl, fy_of rs (k := 1) (by decide)⟩ _ _
              · have hl2 := tk7_1.mp (nI_inj (b := 1) c143 (by omega) (by decide))
                have hlt2 : tkC b L p < 256 := by omega
                refine g_aload_n d_X7_reads_146 rfl ?_
                refine mm_getV (v := nI (tkC b L p)) d_X7_reads_147 fl_7_102 sp_M rfl (rs.2.2.2.2.2.2 hlt2) ?_
                refine g_bipush d_X7_reads_150 bk_98 ?_
                refine g_icmp_ne d_X7_reads_152 (fun c152 => ?_) (fun c152 => ?_)
                · refine g_iconst d_X7_reads_168 ik_0 ?_
                  refine w_istore_n (L' := [_, _, _]) d_X7_reads_169 rfl rfl rfl ?_
                  refine g_iload_n d_X7_reads_170 rfl ?_
                  refine g_if_eq d_X7_reads_171 (fun c171 => ?_) (fun c171 => absurd c171 (by decide))
                  refine g_iload_n d_X7_reads_191 rfl ?_
                  refine g_if_eq d_X7_reads_192 (fun c192 => ?_) (fun c192 => absurd c192 (by decide))
                  refine g_aload_n d_X7_reads_213 rfl ?_
                  refine g_iload_n d_X7_reads_214 rfl ?_
                  refine g_if_ne d_X7_reads_215 (fun c215 => absurd c215 (by decide)) (fun c215 => ?_)
                  refine g_iload_n d_X7_reads_218 rfl ?_
                  refine g_if_eq d_X7_reads_219 (fun c219 => ?_) (fun c219 => absurd c219 (by decide))
                  refine g_iconst d_X7_reads_226 ik_1 ?_
                  refine h_V1v d_X7_reads_227 cl_7_118 (m7_faulty h0 rs.2.2.1) sp_M (by decide) rfl (Nat.le_of_ble_eq_true rfl) (by decide) ?_
                  refine g_goto d_X7_reads_230 ?_
                  exact lp_rx (fy_of rs (k := 1) (by decide)) ⟨rfl, _, rfl, fy_of rs (k := 1) (by decide)⟩ _ _
                · exact absurd (nI_inj (b := 98) c152 (by omega) (by decide)) hz
            · have hl1 := tk7_1.mp (nI_inj (b := 1) c110 (by omega) (by decide))
              have hlt : tkC b L p < 256 := by omega
              refine g_aload_n d_X7_reads_113 rfl ?_
              refine mm_getV (v := nI (tkC b L p)) d_X7_reads_114 fl_7_102 sp_M rfl (rs.2.2.2.2.2.2 hlt) ?_
              refine h_S1i d_X7_reads_117 cl_7_125 (m7_kindOf (by omega)) (Nat.le_of_ble_eq_true rfl) (by decide) ?_
              refine g_if_le d_X7_reads_120 (fun c120 => ?_) (fun c120 => ?_)
              · refine g_iconst d_X7_reads_136 ik_0 ?_
                refine w_istore_n (L' := [_, _, _]) d_X7_reads_137 rfl rfl rfl ?_
                refine g_aload_n d_X7_reads_138 rfl ?_
                refine mm_getV (v := nI (tk7 (tkC b L p))) d_X7_reads_139 fl_7_105 sp_M rfl (rs.2.2.2.2.1) ?_
                refine g_iconst d_X7_reads_142 ik_1 ?_
                refine g_icmp_ne d_X7_reads_143 (fun c143 => ?_) (fun c143 => ?_)
                · refine g_iconst d_X7_reads_168 ik_0 ?_
                  refine w_istore_n (L' := [_, _, _]) d_X7_reads_169 rfl rfl rfl ?_
                  refine g_iload_n d_X7_reads_170 rfl ?_
                  refine g_if_eq d_X7_reads_171 (fun c171 => ?_) (fun c171 => absurd c171 (by decide))
                  refine g_iload_n d_X7_reads_191 rfl ?_
                  refine g_if_eq d_X7_reads_192 (fun c192 => ?_) (fun c192 => absurd c192 (by decide))
                  refine g_aload_n d_X7_reads_213 rfl ?_
                  refine g_iload_n d_X7_reads_214 rfl ?_
                  refine g_if_ne d_X7_reads_215 (fun c215 => absurd c215 (by decide)) (fun c215 => ?_)
                  refine g_iload_n d_X7_reads_218 rfl ?_
                  refine g_if_eq d_X7_reads_219 (fun c219 => ?_) (fun c219 => absurd c219 (by decide))
                  refine g_iconst d_X7_reads_226 ik_1 ?_
                  refine h_V1v d_X7_reads_227 cl_7_118 (m7_faulty h0 rs.2.2.1) sp_M (by decide) rfl (Nat.le_of_ble_eq_true rfl) (by decide) ?_
                  refine g_goto d_X7_reads_230 ?_
                  exact lp_rx (fy_of rs (k := 1) (by decide)) ⟨rfl, _, rfl, fy_of rs (k := 1) (by decide)⟩ _ _
                · have hl2 := tk7_1.mp (nI_inj (b := 1) c143 (by omega) (by decide))
                  have hlt2 : tkC b L p < 256 := by omega
                  refine g_aload_n d_X7_reads_146 rfl ?_
                  refine mm_getV (v := nI (tkC b L p)) d_X7_reads_147 fl_7_102 sp_M rfl (rs.2.2.2.2.2.2 hlt2) ?_
                  refine g_bipush d_X7_reads_150 bk_98 ?_
                  refine g_icmp_ne d_X7_reads_152 (fun c152 => ?_) (fun c152 => ?_)
                  · refine g_iconst d_X7_reads_168 ik_0 ?_
                    refine w_istore_n (L' := [_, _, _]) d_X7_reads_169 rfl rfl rfl ?_
                    refine g_iload_n d_X7_reads_170 rfl ?_
                    refine g_if_eq d_X7_reads_171 (fun c171 => ?_) (fun c171 => absurd c171 (by decide))
                    refine g_iload_n d_X7_reads_191 rfl ?_
                    refine g_if_eq d_X7_reads_192 (fun c192 => ?_) (fun c192 => absurd c192 (by decide))
                    refine g_aload_n d_X7_reads_213 rfl ?_
                    refine g_iload_n d_X7_reads_214 rfl ?_
                    refine g_if_ne d_X7_reads_215 (fun c215 => absurd c215 (by decide)) (fun c215 => ?_)
                    refine g_iload_n d_X7_reads_218 rfl ?_
                    refine g_if_eq d_X7_reads_219 (fun c219 => ?_) (fun c219 => absurd c219 (by decide))
                    refine g_iconst d_X7_reads_226 ik_1 ?_
                    refine h_V1v d_X7_reads_227 cl_7_118 (m7_faulty h0 rs.2.2.1) sp_M (by decide) rfl (Nat.le_of_ble_eq_true rfl) (by decide) ?_
                    refine g_goto d_X7_reads_230 ?_
                    exact lp_rx (fy_of rs (k := 1) (by decide)) ⟨rfl, _, rfl, fy_of rs (k := 1) (by decide)⟩ _ _
                  · exact absurd (nI_inj (b := 98) c152 (by omega) (by decide)) hz
              · refine g_aload_n d_X7_reads_123 rfl ?_
                refine h_getR d_X7_reads_124 fl_7_22 sp_M rfl ?_
                refine g_iconst d_X7_reads_127 ik_1 ?_
                refine mm_aldV (k := 1) (v := nI N) d_X7_reads_128 (j := 5) sp_m_draft rfl (by decide) rfl (by omega) (by decide) (dr.2.1) ?_
                refine g_if_ne d_X7_reads_129 (fun c129 => ?_) (fun c129 => ?_)
                · refine g_iconst d_X7_reads_136 ik_0 ?_
                  refine w_istore_n (L' := [_, _, _]) d_X7_reads_137 rfl rfl rfl ?_
                  refine g_aload_n d_X7_reads_138 rfl ?_
                  refine mm_getV (v := nI (tk7 (tkC b L p))) d_X7_reads_139 fl_7_105 sp_M rfl (rs.2.2.2.2.1) ?_
                  refine g_iconst d_X7_reads_142 ik_1 ?_
                  refine g_icmp_ne d_X7_reads_143 (fun c143 => ?_) (fun c143 => ?_)
                  · refine g_iconst d_X7_reads_168 ik_0 ?_
                    refine w_istore_n (L' := [_, _, _]) d_X7_reads_169 rfl rfl rfl ?_
                    refine g_iload_n d_X7_reads_170 rfl ?_
                    refine g_if_eq d_X7_reads_171 (fun c171 => ?_) (fun c171 => absurd c171 (by decide))
                    refine g_iload_n d_X7_reads_191 rfl ?_
                    refine g_if_eq d_X7_reads_192 (fun c192 => ?_) (fun c192 => absurd c192 (by decide))
                    refine g_aload_n d_X7_reads_213 rfl ?_
                    refine g_iload_n d_X7_reads_214 rfl ?_
                    refine g_if_ne d_X7_reads_215 (fun c215 => absurd c215 (by decide)) (fun c215 => ?_)
                    refine g_iload_n d_X7_reads_218 rfl ?_
                    refine g_if_eq d_X7_reads_219 (fun c219 => ?_) (fun c219 => absurd c219 (by decide))
                    refine g_iconst d_X7_reads_226 ik_1 ?_
                    refine h_V1v d_X7_reads_227 cl_7_118 (m7_faulty h0 rs.2.2.1) sp_M (by decide) rfl (Nat.le_of_ble_eq_true rfl) (by decide) ?_
                    refine g_goto d_X7_reads_230 ?_
                    exact lp_rx (fy_of rs (k := 1) (by decide)) ⟨rfl, _, rfl, fy_of rs (k := 1) (by decide)⟩ _ _
                  · have hl2 := tk7_1.mp (nI_inj (b := 1) c143 (by omega) (by decide))
                    have hlt2 : tkC b L p < 256 := by omega
                    refine g_aload_n d_X7_reads_146 rfl ?_
                    refine mm_getV (v := nI (tkC b L p)) d_X7_reads_147 fl_7_102 sp_M rfl (rs.2.2.2.2.2.2 hlt2) ?_
                    refine g_bipush d_X7_reads_150 bk_98 ?_
                    refine g_icmp_ne d_X7_reads_152 (fun c152 => ?_) (fun c152 => ?_)
                    · refine g_iconst d_X7_reads_168 ik_0 ?_
                      refine w_istore_n (L' := [_, _, _]) d_X7_reads_169 rfl rfl rfl ?_
                      refine g_iload_n d_X7_reads_170 rfl ?_
                      refine g_if_eq d_X7_reads_171 (fun c171 => ?_) (fun c171 => absurd c171 (by decide))
                      refine g_iload_n d_X7_reads_191 rfl ?_
                      refine g_if_eq d_X7_reads_192 (fun c192 => ?_) (fun c192 => absurd c192 (by decide))
                      refine g_aload_n d_X7_reads_213 rfl ?_
                      refine g_iload_n d_X7_reads_214 rfl ?_
                      refine g_if_ne d_X7_reads_215 (fun c215 => absurd c215 (by decide)) (fun c215 => ?_)
                      refine g_iload_n d_X7_reads_218 rfl ?_
                      refine g_if_eq d_X7_reads_219 (fun c219 => ?_) (fun c219 => absurd c219 (by decide))
                      refine g_iconst d_X7_reads_226 ik_1 ?_
                      refine h_V1v d_X7_reads_227 cl_7_118 (m7_faulty h0 rs.2.2.1) sp_M (by decide) rfl (Nat.le_of_ble_eq_true rfl) (by decide) ?_
                      refine g_goto d_X7_reads_230 ?_
                      exact lp_rx (fy_of rs (k := 1) (by decide)) ⟨rfl, _, rfl, fy_of rs (k := 1) (by decide)⟩ _ _
                    · exact absurd (nI_inj (b := 98) c152 (by omega) (by decide)) hz
                · exfalso
                  rcases Nat.eq_zero_or_pos N with z | z
                  · rw [hk0 z] at c120; exact c120 (by decide)
                  · exact nI_ne0 z (by omega) c129
theorem lp_rm7 {b : Nat → Nat} {L : Nat} {h : Hv} : ∀ (f M p : Nat) (g w1 : Hv), M + f = 5 → RS b L w1 p → w1 0 11 = 0 → DR M 0 g w1 → ∀ (y1 y2 : Option Value), GdH M_X7_reads 4 82 [some (.ref 360), y1, y2] [] (mu h w1) (fun v' h' => v' = none ∧ ∃ w2, h' = mu h w2 ∧ (match pMs b L (f + 1) M p g with | .ok (M', q, g') => (match pLs b L 7 0 q g' with | .ok (N', g'') => FrD w1 w2 ∧ w2 0 11 = 0 ∧ DR M' N' g'' w2 | .error e => FY w1 w2 e) | .error e => FY w1 w2 e)) := by
  intro f
  induction f with
  | zero =>
    intro M p g w1 hf rs h0 dr y1 y2
    have hC := tkC_lt (p := p) (fun k hk => (rs.1.2.2 k hk).2)
    have ht7 := tk7_lt (tkC b L p)
    have hkn := kindN_lt (tkC b L p)
    by_cases hz : kindN (tkC b L p) = 0
    · by_cases hM0 : M = 0
      · rw [show pMs b L (0 + 1) M p g = .error (1, p) by rw [pMs, if_pos hz, if_pos hM0]]
        refine g_aload_n d_X7_reads_82 rfl ?_
        refine h_V0i d_X7_reads_83 cl_7_111 (m7_isWell h0) sp_M (by decide) rfl (Nat.le_of_ble_eq_true rfl) (by decide) ?_
        refine g_if_eq d_X7_reads_86 (fun c86 => absurd c86 (by decide)) (fun c86 => ?_)
        refine g_aload_n d_X7_reads_89 rfl ?_
        refine mm_getV (v := nI (tk7 (tkC b L p))) d_X7_reads_90 fl_7_105 sp_M rfl (rs.2.2.2.2.1) ?_
        refine g_if_ne d_X7_reads_93 (fun c93 => ?_) (fun c93 => ?_)
        · refine g_aload_n d_X7_reads_105 rfl ?_
          refine mm_getV (v := nI (tk7 (tkC b L p))) d_X7_reads_106 fl_7_105 sp_M rfl (rs.2.2.2.2.1) ?_
          refine g_iconst d_X7_reads_109 ik_1 ?_
          refine g_icmp_ne d_X7_reads_110 (fun c110 => ?_) (fun c110 => ?_)
          · refine g_iconst d_X7_reads_136 ik_0 ?_
            refine w_istore_n (L' := [_, _, _]) d_X7_reads_137 rfl rfl rfl ?_
            refine g_aload_n d_X7_reads_138 rfl ?_
            refine mm_getV (v := nI (tk7 (tkC b L p))) d_X7_reads_139 fl_7_105 sp_M rfl (rs.2.2.2.2.1) ?_
            refine g_iconst d_X7_reads_142 ik_1 ?_
            refine g_icmp_ne d_X7_reads_143 (fun c143 => ?_) (fun c143 => ?_)
            · refine g_iconst d_X7_reads_168 ik_0 ?_
              refine w_istore_n (L' := [_, _, _]) d_X7_reads_169 rfl rfl rfl ?_
              refine g_iload_n d_X7_reads_170 rfl ?_
              refine g_if_eq d_X7_reads_171 (fun c171 => ?_) (fun c171 => absurd c171 (by decide))
              refine g_iload_n d_X7_reads_191 rfl ?_
              refine g_if_eq d_X7_reads_192 (fun c192 => ?_) (fun c192 => absurd c192 (by decide))
              refine g_aload_n d_X7_reads_213 rfl ?_
              refine g_iload_n d_X7_reads_214 rfl ?_
              refine g_if_ne d_X7_reads_215 (fun c215 => absurd c215 (by decide)) (fun c215 => ?_)
              refine g_iload_n d_X7_reads_218 rfl ?_
              refine g_if_eq d_X7_reads_219 (fun c219 => ?_) (fun c219 => absurd c219 (by decide))
              refine g_iconst d_X7_reads_226 ik_1 ?_
              refine h_V1v d_X7_reads_227 cl_7_118 (m7_faulty h0 rs.2.2.1) sp_M (by decide) rfl (Nat.le_of_ble_eq_true rfl) (by decide) ?_
              refine g_goto d_X7_reads_230 ?_
              exact lp_rx (fy_of rs (k := 1) (by decide)) ⟨rfl, _, rfl, fy_of rs (k := 1) (by decide)⟩ _ _
            · have hl2 := tk7_1.mp (nI_inj (b := 1) c143 (by omega) (by decide))
              have hlt2 : tkC b L p < 256 := by omega
              refine g_aload_n d_X7_reads_146 rfl ?_
              refine mm_getV (v := nI (tkC b L p)) d_X7_reads_147 fl_7_102 sp_M rfl (rs.2.2.2.2.2.2 hlt2) ?_
              refine g_bipush d_X7_reads_150 bk_98 ?_
              refine g_icmp_ne d_X7_reads_152 (fun c152 => ?_) (fun c152 => ?_)
              · refine g_iconst d_X7_reads_168 ik_0 ?_
                refine w_istore_n (L' := [_, _, _]) d_X7_reads_169 rfl rfl rfl ?_
                refine g_iload_n d_X7_reads_170 rfl ?_
                refine g_if_eq d_X7_reads_171 (fun c171 => ?_) (fun c171 => absurd c171 (by decide))
                refine g_iload_n d_X7_reads_191 rfl ?_
                refine g_if_eq d_X7_reads_192 (fun c192 => ?_) (fun c192 => absurd c192 (by decide))
                refine g_aload_n d_X7_reads_213 rfl ?_
                refine g_iload_n d_X7_reads_214 rfl ?_
                refine g_if_ne d_X7_reads_215 (fun c215 => absurd c215 (by decide)) (fun c215 => ?_)
                refine g_iload_n d_X7_reads_218 rfl ?_
                refine g_if_eq d_X7_reads_219 (fun c219 => ?_) (fun c219 => absurd c219 (by decide))
                refine g_iconst d_X7_reads_226 ik_1 ?_
                refine h_V1v d_X7_reads_227 cl_7_118 (m7_faulty h0 rs.2.2.1) sp_M (by decide) rfl (Nat.le_of_ble_eq_true rfl) (by decide) ?_
                refine g_goto d_X7_reads_230 ?_
                exact lp_rx (fy_of rs (k := 1) (by decide)) ⟨rfl, _, rfl, fy_of rs (k := 1) (by decide)⟩ _ _
              · refine g_aload_n d_X7_reads_155 rfl ?_
                refine h_getR d_X7_reads_156 fl_7_22 sp_M rfl ?_
                refine g_iconst d_X7_reads_159 ik_0 ?_
                refine mm_aldV (k := 0) (v := nI M) d_X7_reads_160 (j := 5) sp_m_draft rfl (by decide) rfl (by omega) (by decide) (dr.1) ?_
                refine g_if_le d_X7_reads_161 (fun c161 => ?_) (fun c161 => absurd (show nI M ≤ 0 by rw [hM0]; decide) c161)
                refine g_iconst d_X7_reads_168 ik_0 ?_
                refine w_istore_n (L' := [_, _, _]) d_X7_reads_169 rfl rfl rfl ?_
                refine g_iload_n d_X7_reads_170 rfl ?_
                refine g_if_eq d_X7_reads_171 (fun c171 => ?_) (fun c171 => absurd c171 (by decide))
                refine g_iload_n d_X7_reads_191 rfl ?_
                refine g_if_eq d_X7_reads_192 (fun c192 => ?_) (fun c192 => absurd c192 (by decide))
                refine g_aload_n d_X7_reads_213 rfl ?_
                refine g_iload_n d_X7_reads_214 rfl ?_
                refine g_if_ne d_X7_reads_215 (fun c215 => absurd c215 (by decide)) (fun c215 => ?_)
                refine g_iload_n d_X7_reads_218 rfl ?_
                refine g_if_eq d_X7_reads_219 (fun c219 => ?_) (fun c219 => absurd c219 (by decide))
                refine g_iconst d_X7_reads_226 ik_1 ?_
                refine h_V1v d_X7_reads_227 cl_7_118 (m7_faulty h0 rs.2.2.1) sp_M (by decide) rfl (Nat.le_of_ble_eq_true rfl) (by decide) ?_
                refine g_goto d_X7_reads_230 ?_
                exact lp_rx (fy_of rs (k := 1) (by decide)) ⟨rfl, _, rfl, fy_of rs (k := 1) (by decide)⟩ _ _
          · have hl1 := tk7_1.mp (nI_inj (b := 1) c110 (by omega) (by decide))
            have hlt : tkC b L p < 256 := by omega
            refine g_aload_n d_X7_reads_113 rfl ?_
            refine mm_getV (v := nI (tkC b L p)) d_X7_reads_114 fl_7_102 sp_M rfl (rs.2.2.2.2.2.2 hlt) ?_
            refine h_S1i d_X7_reads_117 cl_7_125 (m7_kindOf (by omega)) (Nat.le_of_ble_eq_true rfl) (by decide) ?_
            refine g_if_le d_X7_reads_120 (fun c120 => ?_) (fun c120 => absurd (show nI (kindN (tkC b L p)) ≤ 0 by rw [hz]; decide) c120)
            refine g_iconst d_X7_reads_136 ik_0 ?_
            refine w_istore_n (L' := [_, _, _]) d_X7_reads_137 rfl rfl rfl ?_
            refine g_aload_n d_X7_reads_138 rfl ?_
            refine mm_getV (v := nI (tk7 (tkC b L p))) d_X7_reads_139 fl_7_105 sp_M rfl (rs.2.2.2.2.1) ?_
            refine g_iconst d_X7_reads_142 ik_1 ?_
            refine g_icmp_ne d_X7_reads_143 (fun c143 => ?_) (fun c143 => ?_)
            · refine g_iconst d_X7_reads_168 ik_0 ?_
              refine w_istore_n (L' := [_, _, _]) d_X7_reads_169 rfl rfl rfl ?_
              refine g_iload_n d_X7_reads_170 rfl ?_
              refine g_if_eq d_X7_reads_171 (fun c171 => ?_) (fun c171 => absurd c171 (by decide))
              refine g_iload_n d_X7_reads_191 rfl ?_
              refine g_if_eq d_X7_reads_192 (fun c192 => ?_) (fun c192 => absurd c192 (by decide))
              refine g_aload_n d_X7_reads_213 rfl ?_
              refine g_iload_n d_X7_reads_214 rfl ?_
              refine g_if_ne d_X7_reads_215 (fun c215 => absurd c215 (by decide)) (fun c215 => ?_)
              refine g_iload_n d_X7_reads_218 rfl ?_
              refine g_if_eq d_X7_reads_219 (fun c219 => ?_) (fun c219 => absurd c219 (by decide))
              refine g_iconst d_X7_reads_226 ik_1 ?_
              refine h_V1v d_X7_reads_227 cl_7_118 (m7_faulty h0 rs.2.2.1) sp_M (by decide) rfl (Nat.le_of_ble_eq_true rfl) (by decide) ?_
              refine g_goto d_X7_reads_230 ?_
              exact lp_rx (fy_of rs (k := 1) (by decide)) ⟨rfl, _, rfl, fy_of rs (k := 1) (by decide)⟩ _ _
            · have hl2 := tk7_1.mp (nI_inj (b := 1) c143 (by omega) (by decide))
              have hlt2 : tkC b L p < 256 := by omega
              refine g_aload_n d_X7_reads_146 rfl ?_
              refine mm_getV (v := nI (tkC b L p)) d_X7_reads_147 fl_7_102 sp_M rfl (rs.2.2.2.2.2.2 hlt2) ?_
              refine g_bipush d_X7_reads_150 bk_98 ?_
              refine g_icmp_ne d_X7_reads_152 (fun c152 => ?_) (fun c152 => ?_)
              · refine g_iconst d_X7_reads_168 ik_0 ?_
                refine w_istore_n (L' := [_, _, _]) d_X7_reads_169 rfl rfl rfl ?_
                refine g_iload_n d_X7_reads_170 rfl ?_
                refine g_if_eq d_X7_reads_171 (fun c171 => ?_) (fun c171 => absurd c171 (by decide))
                refine g_iload_n d_X7_reads_191 rfl ?_
                refine g_if_eq d_X7_reads_192 (fun c192 => ?_) (fun c192 => absurd c192 (by decide))
                refine g_aload_n d_X7_reads_213 rfl ?_
                refine g_iload_n d_X7_reads_214 rfl ?_
                refine g_if_ne d_X7_reads_215 (fun c215 => absurd c215 (by decide)) (fun c215 => ?_)
                refine g_iload_n d_X7_reads_218 rfl ?_
                refine g_if_eq d_X7_reads_219 (fun c219 => ?_) (fun c219 => absurd c219 (by decide))
                refine g_iconst d_X7_reads_226 ik_1 ?_
                refine h_V1v d_X7_reads_227 cl_7_118 (m7_faulty h0 rs.2.2.1) sp_M (by decide) rfl (Nat.le_of_ble_eq_true rfl) (by decide) ?_
                refine g_goto d_X7_reads_230 ?_
                exact lp_rx (fy_of rs (k := 1) (by decide)) ⟨rfl, _, rfl, fy_of rs (k := 1) (by decide)⟩ _ _
              · refine g_aload_n d_X7_reads_155 rfl ?_
                refine h_getR d_X7_reads_156 fl_7_22 sp_M rfl ?_
                refine g_iconst d_X7_reads_159 ik_0 ?_
                refine mm_aldV (k := 0) (v := nI M) d_X7_reads_160 (j := 5) sp_m_draft rfl (by decide) rfl (by omega) (by decide) (dr.1) ?_
                refine g_if_le d_X7_reads_161 (fun c161 => ?_) (fun c161 => absurd (show nI M ≤ 0 by rw [hM0]; decide) c161)
                refine g_iconst d_X7_reads_168 ik_0 ?_
                refine w_istore_n (L' := [_, _, _]) d_X7_reads_169 rfl rfl rfl ?_
                refine g_iload_n d_X7_reads_170 rfl ?_
                refine g_if_eq d_X7_reads_171 (fun c171 => ?_) (fun c171 => absurd c171 (by decide))
                refine g_iload_n d_X7_reads_191 rfl ?_
                refine g_if_eq d_X7_reads_192 (fun c192 => ?_) (fun c192 => absurd c192 (by decide))
                refine g_aload_n d_X7_reads_213 rfl ?_
                refine g_iload_n d_X7_reads_214 rfl ?_
                refine g_if_ne d_X7_reads_215 (fun c215 => absurd c215 (by decide)) (fun c215 => ?_)
                refine g_iload_n d_X7_reads_218 rfl ?_
                refine g_if_eq d_X7_reads_219 (fun c219 => ?_) (fun c219 => absurd c219 (by decide))
                refine g_iconst d_X7_reads_226 ik_1 ?_
                refine h_V1v d_X7_reads_227 cl_7_118 (m7_faulty h0 rs.2.2.1) sp_M (by decide) rfl (Nat.le_of_ble_eq_true rfl) (by decide) ?_
                refine g_goto d_X7_reads_230 ?_
                exact lp_rx (fy_of rs (k := 1) (by decide)) ⟨rfl, _, rfl, fy_of rs (k := 1) (by decide)⟩ _ _
        · refine g_aload_n d_X7_reads_96 rfl ?_
          refine h_getR d_X7_reads_97 fl_7_22 sp_M rfl ?_
          refine g_iconst d_X7_reads_100 ik_1 ?_
          refine mm_aldV (k := 1) (v := 0) d_X7_reads_101 (j := 5) sp_m_draft rfl (by decide) rfl (by omega) (by decide) (dr.2.1) ?_
          refine g_if_gt d_X7_reads_102 (fun c102 => absurd c102 (by decide)) (fun c102 => ?_)
          refine g_aload_n d_X7_reads_105 rfl ?_
          refine mm_getV (v := nI (tk7 (tkC b L p))) d_X7_reads_106 fl_7_105 sp_M rfl (rs.2.2.2.2.1) ?_
          refine g_iconst d_X7_reads_109 ik_1 ?_
          refine g_icmp_ne d_X7_reads_110 (fun c110 => ?_) (fun c110 => ?_)
          · refine g_iconst d_X7_reads_136 ik_0 ?_
            refine w_istore_n (L' := [_, _, _]) d_X7_reads_137 rfl rfl rfl ?_
            refine g_aload_n d_X7_reads_138 rfl ?_
            refine mm_getV (v := nI (tk7 (tkC b L p))) d_X7_reads_139 fl_7_105 sp_M rfl (rs.2.2.2.2.1) ?_
            refine g_iconst d_X7_reads_142 ik_1 ?_
            refine g_icmp_ne d_X7_reads_143 (fun c143 => ?_) (fun c143 => ?_)
            · refine g_iconst d_X7_reads_168 ik_0 ?_
              refine w_istore_n (L' := [_, _, _]) d_X7_reads_169 rfl rfl rfl ?_
              refine g_iload_n d_X7_reads_170 rfl ?_
              refine g_if_eq d_X7_reads_171 (fun c171 => ?_) (fun c171 => absurd c171 (by decide))
              refine g_iload_n d_X7_reads_191 rfl ?_
              refine g_if_eq d_X7_reads_192 (fun c192 => ?_) (fun c192 => absurd c192 (by decide))
              refine g_aload_n d_X7_reads_213 rfl ?_
              refine g_iload_n d_X7_reads_214 rfl ?_
              refine g_if_ne d_X7_reads_215 (fun c215 => absurd c215 (by decide)) (fun c215 => ?_)
              refine g_iload_n d_X7_reads_218 rfl ?_
              refine g_if_eq d_X7_reads_219 (fun c219 => ?_) (fun c219 => absurd c219 (by decide))
              refine g_iconst d_X7_reads_226 ik_1 ?_
              refine h_V1v d_X7_reads_227 cl_7_118 (m7_faulty h0 rs.2.2.1) sp_M (by decide) rfl (Nat.le_of_ble_eq_true rfl) (by decide) ?_
              refine g_goto d_X7_reads_230 ?_
              exact lp_rx (fy_of rs (k := 1) (by decide)) ⟨rfl, _, rfl, fy_of rs (k := 1) (by decide)⟩ _ _
            · have hl2 := tk7_1.mp (nI_inj (b := 1) c143 (by omega) (by decide))
              have hlt2 : tkC b L p < 256 := by omega
              refine g_aload_n d_X7_reads_146 rfl ?_
              refine mm_getV (v := nI (tkC b L p)) d_X7_reads_147 fl_7_102 sp_M rfl (rs.2.2.2.2.2.2 hlt2) ?_
              refine g_bipush d_X7_reads_150 bk_98 ?_
              refine g_icmp_ne d_X7_reads_152 (fun c152 => ?_) (fun c152 => ?_)
              · refine g_iconst d_X7_reads_168 ik_0 ?_
                refine w_istore_n (L' := [_, _, _]) d_X7_reads_169 rfl rfl rfl ?_
                refine g_iload_n d_X7_reads_170 rfl ?_
                refine g_if_eq d_X7_reads_171 (fun c171 => ?_) (fun c171 => absurd c171 (by decide))
                refine g_iload_n d_X7_reads_191 rfl ?_
                refine g_if_eq d_X7_reads_192 (fun c192 => ?_) (fun c192 => absurd c192 (by decide))
                refine g_aload_n d_X7_reads_213 rfl ?_
                refine g_iload_n d_X7_reads_214 rfl ?_
                refine g_if_ne d_X7_reads_215 (fun c215 => absurd c215 (by decide)) (fun c215 => ?_)
                refine g_iload_n d_X7_reads_218 rfl ?_
                refine g_if_eq d_X7_reads_219 (fun c219 => ?_) (fun c219 => absurd c219 (by decide))
                refine g_iconst d_X7_reads_226 ik_1 ?_
                refine h_V1v d_X7_reads_227 cl_7_118 (m7_faulty h0 rs.2.2.1) sp_M (by decide) rfl (Nat.le_of_ble_eq_true rfl) (by decide) ?_
                refine g_goto d_X7_reads_230 ?_
                exact lp_rx (fy_of rs (k := 1) (by decide)) ⟨rfl, _, rfl, fy_of rs (k := 1) (by decide)⟩ _ _
              · refine g_aload_n d_X7_reads_155 rfl ?_
                refine h_getR d_X7_reads_156 fl_7_22 sp_M rfl ?_
                refine g_iconst d_X7_reads_159 ik_0 ?_
                refine mm_aldV (k := 0) (v := nI M) d_X7_reads_160 (j := 5) sp_m_draft rfl (by decide) rfl (by omega) (by decide) (dr.1) ?_
                refine g_if_le d_X7_reads_161 (fun c161 => ?_) (fun c161 => absurd (show nI M ≤ 0 by rw [hM0]; decide) c161)
                refine g_iconst d_X7_reads_168 ik_0 ?_
                refine w_istore_n (L' := [_, _, _]) d_X7_reads_169 rfl rfl rfl ?_
                refine g_iload_n d_X7_reads_170 rfl ?_
                refine g_if_eq d_X7_reads_171 (fun c171 => ?_) (fun c171 => absurd c171 (by decide))
                refine g_iload_n d_X7_reads_191 rfl ?_
                refine g_if_eq d_X7_reads_192 (fun c192 => ?_) (fun c192 => absurd c192 (by decide))
                refine g_aload_n d_X7_reads_213 rfl ?_
                refine g_iload_n d_X7_reads_214 rfl ?_
                refine g_if_ne d_X7_reads_215 (fun c215 => absurd c215 (by decide)) (fun c215 => ?_)
                refine g_iload_n d_X7_reads_218 rfl ?_
                refine g_if_eq d_X7_reads_219 (fun c219 => ?_) (fun c219 => absurd c219 (by decide))
                refine g_iconst d_X7_reads_226 ik_1 ?_
                refine h_V1v d_X7_reads_227 cl_7_118 (m7_faulty h0 rs.2.2.1) sp_M (by decide) rfl (Nat.le_of_ble_eq_true rfl) (by decide) ?_
                refine g_goto d_X7_reads_230 ?_
                exact lp_rx (fy_of rs (k := 1) (by decide)) ⟨rfl, _, rfl, fy_of rs (k := 1) (by decide)⟩ _ _
          · have hl1 := tk7_1.mp (nI_inj (b := 1) c110 (by omega) (by decide))
            have hlt : tkC b L p < 256 := by omega
            refine g_aload_n d_X7_reads_113 rfl ?_
            refine mm_getV (v := nI (tkC b L p)) d_X7_reads_114 fl_7_102 sp_M rfl (rs.2.2.2.2.2.2 hlt) ?_
            refine h_S1i d_X7_reads_117 cl_7_125 (m7_kindOf (by omega)) (Nat.le_of_ble_eq_true rfl) (by decide) ?_
            refine g_if_le d_X7_reads_120 (fun c120 => ?_) (fun c120 => absurd (show nI (kindN (tkC b L p)) ≤ 0 by rw [hz]; decide) c120)
            refine g_iconst d_X7_reads_136 ik_0 ?_
            refine w_istore_n (L' := [_, _, _]) d_X7_reads_137 rfl rfl rfl ?_
            refine g_aload_n d_X7_reads_138 rfl ?_
            refine mm_getV (v := nI (tk7 (tkC b L p))) d_X7_reads_139 fl_7_105 sp_M rfl (rs.2.2.2.2.1) ?_
            refine g_iconst d_X7_reads_142 ik_1 ?_
            refine g_icmp_ne d_X7_reads_143 (fun c143 => ?_) (fun c143 => ?_)
            · refine g_iconst d_X7_reads_168 ik_0 ?_
              refine w_istore_n (L' := [_, _, _]) d_X7_reads_169 rfl rfl rfl ?_
              refine g_iload_n d_X7_reads_170 rfl ?_
              refine g_if_eq d_X7_reads_171 (fun c171 => ?_) (fun c171 => absurd c171 (by decide))
              refine g_iload_n d_X7_reads_191 rfl ?_
              refine g_if_eq d_X7_reads_192 (fun c192 => ?_) (fun c192 => absurd c192 (by decide))
              refine g_aload_n d_X7_reads_213 rfl ?_
              refine g_iload_n d_X7_reads_214 rfl ?_
              refine g_if_ne d_X7_reads_215 (fun c215 => absurd c215 (by decide)) (fun c215 => ?_)
              refine g_iload_n d_X7_reads_218 rfl ?_
              refine g_if_eq d_X7_reads_219 (fun c219 => ?_) (fun c219 => absurd c219 (by decide))
              refine g_iconst d_X7_reads_226 ik_1 ?_
              refine h_V1v d_X7_reads_227 cl_7_118 (m7_faulty h0 rs.2.2.1) sp_M (by decide) rfl (Nat.le_of_ble_eq_true rfl) (by decide) ?_
              refine g_goto d_X7_reads_230 ?_
              exact lp_rx (fy_of rs (k := 1) (by decide)) ⟨rfl, _, rfl, fy_of rs (k := 1) (by decide)⟩ _ _
            · have hl2 := tk7_1.mp (nI_inj (b := 1) c143 (by omega) (by decide))
              have hlt2 : tkC b L p < 256 := by omega
              refine g_aload_n d_X7_reads_146 rfl ?_
              refine mm_getV (v := nI (tkC b L p)) d_X7_reads_147 fl_7_102 sp_M rfl (rs.2.2.2.2.2.2 hlt2) ?_
              refine g_bipush d_X7_reads_150 bk_98 ?_
              refine g_icmp_ne d_X7_reads_152 (fun c152 => ?_) (fun c152 => ?_)
              · refine g_iconst d_X7_reads_168 ik_0 ?_
                refine w_istore_n (L' := [_, _, _]) d_X7_reads_169 rfl rfl rfl ?_
                refine g_iload_n d_X7_reads_170 rfl ?_
                refine g_if_eq d_X7_reads_171 (fun c171 => ?_) (fun c171 => absurd c171 (by decide))
                refine g_iload_n d_X7_reads_191 rfl ?_
                refine g_if_eq d_X7_reads_192 (fun c192 => ?_) (fun c192 => absurd c192 (by decide))
                refine g_aload_n d_X7_reads_213 rfl ?_
                refine g_iload_n d_X7_reads_214 rfl ?_
                refine g_if_ne d_X7_reads_215 (fun c215 => absurd c215 (by decide)) (fun c215 => ?_)
                refine g_iload_n d_X7_reads_218 rfl ?_
                refine g_if_eq d_X7_reads_219 (fun c219 => ?_) (fun c219 => absurd c219 (by decide))
                refine g_iconst d_X7_reads_226 ik_1 ?_
                refine h_V1v d_X7_reads_227 cl_7_118 (m7_faulty h0 rs.2.2.1) sp_M (by decide) rfl (Nat.le_of_ble_eq_true rfl) (by decide) ?_
                refine g_goto d_X7_reads_230 ?_
                exact lp_rx (fy_of rs (k := 1) (by decide)) ⟨rfl, _, rfl, fy_of rs (k := 1) (by decide)⟩ _ _
              · refine g_aload_n d_X7_reads_155 rfl ?_
                refine h_getR d_X7_reads_156 fl_7_22 sp_M rfl ?_
                refine g_iconst d_X7_reads_159 ik_0 ?_
                refine mm_aldV (k := 0) (v := nI M) d_X7_reads_160 (j := 5) sp_m_draft rfl (by decide) rfl (by omega) (by decide) (dr.1) ?_
                refine g_if_le d_X7_reads_161 (fun c161 => ?_) (fun c161 => absurd (show nI M ≤ 0 by rw [hM0]; decide) c161)
                refine g_iconst d_X7_reads_168 ik_0 ?_
                refine w_istore_n (L' := [_, _, _]) d_X7_reads_169 rfl rfl rfl ?_
                refine g_iload_n d_X7_reads_170 rfl ?_
                refine g_if_eq d_X7_reads_171 (fun c171 => ?_) (fun c171 => absurd c171 (by decide))
                refine g_iload_n d_X7_reads_191 rfl ?_
                refine g_if_eq d_X7_reads_192 (fun c192 => ?_) (fun c192 => absurd c192 (by decide))
                refine g_aload_n d_X7_reads_213 rfl ?_
                refine g_iload_n d_X7_reads_214 rfl ?_
                refine g_if_ne d_X7_reads_215 (fun c215 => absurd c215 (by decide)) (fun c215 => ?_)
                refine g_iload_n d_X7_reads_218 rfl ?_
                refine g_if_eq d_X7_reads_219 (fun c219 => ?_) (fun c219 => absurd c219 (by decide))
                refine g_iconst d_X7_reads_226 ik_1 ?_
                refine h_V1v d_X7_reads_227 cl_7_118 (m7_faulty h0 rs.2.2.1) sp_M (by decide) rfl (Nat.le_of_ble_eq_true rfl) (by decide) ?_
                refine g_goto d_X7_reads_230 ?_
                exact lp_rx (fy_of rs (k := 1) (by decide)) ⟨rfl, _, rfl, fy_of rs (k := 1) (by decide)⟩ _ _
      · rw [show pMs b L (0 + 1) M p g = .ok (M, p, g) by rw [pMs, if_pos hz, if_neg hM0]]
        exact lp_rl7 6 0 p g w1 rfl rs h0 dr (by omega) (by omega) (fun _ => hz) y1 y2
    · have hl := kindN_l hz
      have t1 : tk7 (tkC b L p) = 1 := tk7_1.mpr (by omega)
      rw [show pMs b L (0 + 1) M p g = .error (3, p) by rw [pMs, if_neg hz, if_pos (by omega)]]
      refine g_aload_n d_X7_reads_82 rfl ?_
      refine h_V0i d_X7_reads_83 cl_7_111 (m7_isWell h0) sp_M (by decide) rfl (Nat.le_of_ble_eq_true rfl) (by decide) ?_
      refine g_if_eq d_X7_reads_86 (fun c86 => absurd c86 (by decide)) (fun c86 => ?_)
      refine g_aload_n d_X7_reads_89 rfl ?_
      refine mm_getV (v := nI (tk7 (tkC b L p))) d_X7_reads_90 fl_7_105 sp_M rfl (rs.2.2.2.2.1) ?_
      refine g_if_ne d_X7_reads_93 (fun c93 => ?_) (fun c93 => absurd c93 (by rw [t1]; decide))
      refine g_aload_n d_X7_reads_105 rfl ?_
      refine mm_getV (v := nI (tk7 (tkC b L p))) d_X7_reads_106 fl_7_105 sp_M rfl (rs.2.2.2.2.1) ?_
      refine g_iconst d_X7_reads_109 ik_1 ?_
      refine g_icmp_ne d_X7_reads_110 (fun c110 => absurd (show nI (tk7 (tkC b L p)) = 1 by rw [t1]; rfl) c110) (fun c110 => ?_)
      have hl1 := tk7_1.mp (nI_inj (b := 1) c110 (by omega) (by decide))
      have hlt : tkC b L p < 256 := by omega
      refine g_aload_n d_X7_reads_113 rfl ?_
      refine mm_getV (v := nI (tkC b L p)) d_X7_reads_114 fl_7_102 sp_M rfl (rs.2.2.2.2.2.2 hlt) ?_
      refine h_S1i d_X7_reads_117 cl_7_125 (m7_kindOf (by omega)) (Nat.le_of_ble_eq_true rfl) (by decide) ?_
      refine g_if_le d_X7_reads_120 (fun c120 => absurd c120 (nI_ge (a := 0) (b := kindN (tkC b L p)) (by omega) (by omega))) (fun c120 => ?_)
      refine g_aload_n d_X7_reads_123 rfl ?_
      refine h_getR d_X7_reads_124 fl_7_22 sp_M rfl ?_
      refine g_iconst d_X7_reads_127 ik_1 ?_
      refine mm_aldV (k := 1) (v := 0) d_X7_reads_128 (j := 5) sp_m_draft rfl (by decide) rfl (by omega) (by decide) (dr.2.1) ?_
      refine g_if_ne d_X7_reads_129 (fun c129 => absurd rfl c129) (fun c129 => ?_)
      refine g_iconst d_X7_reads_132 ik_1 ?_
      refine g_goto d_X7_reads_133 ?_
      refine w_istore_n (L' := [_, _, _]) d_X7_reads_137 rfl rfl rfl ?_
      refine g_aload_n d_X7_reads_138 rfl ?_
      refine mm_getV (v := nI (tk7 (tkC b L p))) d_X7_reads_139 fl_7_105 sp_M rfl (rs.2.2.2.2.1) ?_
      refine g_iconst d_X7_reads_142 ik_1 ?_
      refine g_icmp_ne d_X7_reads_143 (fun c143 => absurd (show nI (tk7 (tkC b L p)) = 1 by rw [t1]; rfl) c143) (fun c143 => ?_)
      have hl2 := tk7_1.mp (nI_inj (b := 1) c143 (by omega) (by decide))
      have hlt2 : tkC b L p < 256 := by omega
      refine g_aload_n d_X7_reads_146 rfl ?_
      refine mm_getV (v := nI (tkC b L p)) d_X7_reads_147 fl_7_102 sp_M rfl (rs.2.2.2.2.2.2 hlt2) ?_
      refine g_bipush d_X7_reads_150 bk_98 ?_
      refine g_icmp_ne d_X7_reads_152 (fun c152 => ?_) (fun c152 => absurd c152 (fun z => hl.2.2 (nI_inj (b := 98) z (by omega) (by decide))))
      refine g_iconst d_X7_reads_168 ik_0 ?_
      refine w_istore_n (L' := [_, _, _]) d_X7_reads_169 rfl rfl rfl ?_
      refine g_iload_n d_X7_reads_170 rfl ?_
      refine g_if_eq d_X7_reads_171 (fun c171 => absurd c171 (by decide)) (fun c171 => ?_)
      refine g_aload_n d_X7_reads_174 rfl ?_
      refine h_getR d_X7_reads_175 fl_7_22 sp_M rfl ?_
      refine g_iconst d_X7_reads_178 ik_0 ?_
      refine mm_aldV (k := 0) (v := nI M) d_X7_reads_179 (j := 5) sp_m_draft rfl (by decide) rfl (by omega) (by decide) (dr.1) ?_
      refine g_iconst d_X7_reads_180 ik_5 ?_
      refine g_icmp_ge d_X7_reads_181 (fun c181 => ?_) (fun c181 => absurd (nI_le (a := 5) (b := M) (by omega) (by omega)) c181)
      refine g_iload_n d_X7_reads_191 rfl ?_
      refine g_if_eq d_X7_reads_192 (fun c192 => ?_) (fun c192 => absurd c192 (by decide))
      refine g_aload_n d_X7_reads_213 rfl ?_
      refine g_iload_n d_X7_reads_214 rfl ?_
      refine g_if_ne d_X7_reads_215 (fun c215 => ?_) (fun c215 => absurd c215 (by decide))
      refine g_iconst d_X7_reads_222 ik_3 ?_
      refine g_goto d_X7_reads_223 ?_
      refine h_V1v d_X7_reads_227 cl_7_118 (m7_faulty h0 rs.2.2.1) sp_M (by decide) rfl (Nat.le_of_ble_eq_true rfl) (by decide) ?_
      refine g_goto d_X7_reads_230 ?_
      exact lp_rx (fy_of rs (k := 3) (by decide)) ⟨rfl, _, rfl, fy_of rs (k := 3) (by decide)⟩ _ _
  | succ f ih =>
    intro M p g w1 hf rs h0 dr y1 y2
    have hC := tkC_lt (p := p) (fun k hk => (rs.1.2.2 k hk).2)
    have ht7 := tk7_lt (tkC b L p)
    have hkn := kindN_lt (tkC b L p)
    by_cases hz : kindN (tkC b L p) = 0
    · by_cases hM0 : M = 0
      · rw [show pMs b L (f + 1 + 1) M p g = .error (1, p) by rw [pMs, if_pos hz, if_pos hM0]]
        refine g_aload_n d_X7_reads_82 rfl ?_
        refine h_V0i d_X7_reads_83 cl_7_111 (m7_isWell h0) sp_M (by decide) rfl (Nat.le_of_ble_eq_true rfl) (by decide) ?_
        refine g_if_eq d_X7_reads_86 (fun c86 => absurd c86 (by decide)) (fun c86 => ?_)
        refine g_aload_n d_X7_reads_89 rfl ?_
        refine mm_getV (v := nI (tk7 (tkC b L p))) d_X7_reads_90 fl_7_105 sp_M rfl (rs.2.2.2.2.1) ?_
        refine g_if_ne d_X7_reads_93 (fun c93 => ?_) (fun c93 => ?_)
        · refine g_aload_n d_X7_reads_105 rfl ?_
          refine mm_getV (v := nI (tk7 (tkC b L p))) d_X7_reads_106 fl_7_105 sp_M rfl (rs.2.2.2.2.1) ?_
          refine g_iconst d_X7_reads_109 ik_1 ?_
          refine g_icmp_ne d_X7_reads_110 (fun c110 => ?_) (fun c110 => ?_)
          · refine g_iconst d_X7_reads_136 ik_0 ?_
            refine w_istore_n (L' := [_, _, _]) d_X7_reads_137 rfl rfl rfl ?_
            refine g_aload_n d_X7_reads_138 rfl ?_
            refine mm_getV (v := nI (tk7 (tkC b L p))) d_X7_reads_139 fl_7_105 sp_M rfl (rs.2.2.2.2.1) ?_
            refine g_iconst d_X7_reads_142 ik_1 ?_
            refine g_icmp_ne d_X7_reads_143 (fun c143 => ?_) (fun c143 => ?_)
            · refine g_iconst d_X7_reads_168 ik_0 ?_
              refine w_istore_n (L' := [_, _, _]) d_X7_reads_169 rfl rfl rfl ?_
              refine g_iload_n d_X7_reads_170 rfl ?_
              refine g_if_eq d_X7_reads_171 (fun c171 => ?_) (fun c171 => absurd c171 (by decide))
              refine g_iload_n d_X7_reads_191 rfl ?_
              refine g_if_eq d_X7_reads_192 (fun c192 => ?_) (fun c192 => absurd c192 (by decide))
              refine g_aload_n d_X7_reads_213 rfl ?_
              refine g_iload_n d_X7_reads_214 rfl ?_
              refine g_if_ne d_X7_reads_215 (fun c215 => absurd c215 (by decide)) (fun c215 => ?_)
              refine g_iload_n d_X7_reads_218 rfl ?_
              refine g_if_eq d_X7_reads_219 (fun c219 => ?_) (fun c219 => absurd c219 (by decide))
              refine g_iconst d_X7_reads_226 ik_1 ?_
              refine h_V1v d_X7_reads_227 cl_7_118 (m7_faulty h0 rs.2.2.1) sp_M (by decide) rfl (Nat.le_of_ble_eq_true rfl) (by decide) ?_
              refine g_goto d_X7_reads_230 ?_
              exact lp_rx (fy_of rs (k := 1) (by decide)) ⟨rfl, _, rfl, fy_of rs (k := 1) (by decide)⟩ _ _
            · have hl2 := tk7_1.mp (nI_inj (b := 1) c143 (by omega) (by decide))
              have hlt2 : tkC b L p < 256 := by omega
              refine g_aload_n d_X7_reads_146 rfl ?_
              refine mm_getV (v := nI (tkC b L p)) d_X7_reads_147 fl_7_102 sp_M rfl (rs.2.2.2.2.2.2 hlt2) ?_
              refine g_bipush d_X7_reads_150 bk_98 ?_
              refine g_icmp_ne d_X7_reads_152 (fun c152 => ?_) (fun c152 => ?_)
              · refine g_iconst d_X7_reads_168 ik_0 ?_
                refine w_istore_n (L' := [_, _, _]) d_X7_reads_169 rfl rfl rfl ?_
                refine g_iload_n d_X7_reads_170 rfl ?_
                refine g_if_eq d_X7_reads_171 (fun c171 => ?_) (fun c171 => absurd c171 (by decide))
                refine g_iload_n d_X7_reads_191 rfl ?_
                refine g_if_eq d_X7_reads_192 (fun c192 => ?_) (fun c192 => absurd c192 (by decide))
                refine g_aload_n d_X7_reads_213 rfl ?_
                refine g_iload_n d_X7_reads_214 rfl ?_
                refine g_if_ne d_X7_reads_215 (fun c215 => absurd c215 (by decide)) (fun c215 => ?_)
                refine g_iload_n d_X7_reads_218 rfl ?_
                refine g_if_eq d_X7_reads_219 (fun c219 => ?_) (fun c219 => absurd c219 (by decide))
                refine g_iconst d_X7_reads_226 ik_1 ?_
                refine h_V1v d_X7_reads_227 cl_7_118 (m7_faulty h0 rs.2.2.1) sp_M (by decide) rfl (Nat.le_of_ble_eq_true rfl) (by decide) ?_
                refine g_goto d_X7_reads_230 ?_
                exact lp_rx (fy_of rs (k := 1) (by decide)) ⟨rfl, _, rfl, fy_of rs (k := 1) (by decide)⟩ _ _
              · refine g_aload_n d_X7_reads_155 rfl ?_
                refine h_getR d_X7_reads_156 fl_7_22 sp_M rfl ?_
                refine g_iconst d_X7_reads_159 ik_0 ?_
                refine mm_aldV (k := 0) (v := nI M) d_X7_reads_160 (j := 5) sp_m_draft rfl (by decide) rfl (by omega) (by decide) (dr.1) ?_
                refine g_if_le d_X7_reads_161 (fun c161 => ?_) (fun c161 => absurd (show nI M ≤ 0 by rw [hM0]; decide) c161)
                refine g_iconst d_X7_reads_168 ik_0 ?_
                refine w_istore_n (L' := [_, _, _]) d_X7_reads_169 rfl rfl rfl ?_
                refine g_iload_n d_X7_reads_170 rfl ?_
                refine g_if_eq d_X7_reads_171 (fun c171 => ?_) (fun c171 => absurd c171 (by decide))
                refine g_iload_n d_X7_reads_191 rfl ?_
                refine g_if_eq d_X7_reads_192 (fun c192 => ?_) (fun c192 => absurd c192 (by decide))
                refine g_aload_n d_X7_reads_213 rfl ?_
                refine g_iload_n d_X7_reads_214 rfl ?_
                refine g_if_ne d_X7_reads_215 (fun c215 => absurd c215 (by decide)) (fun c215 => ?_)
                refine g_iload_n d_X7_reads_218 rfl ?_
                refine g_if_eq d_X7_reads_219 (fun c219 => ?_) (fun c219 => absurd c219 (by decide))
                refine g_iconst d_X7_reads_226 ik_1 ?_
                refine h_V1v d_X7_reads_227 cl_7_118 (m7_faulty h0 rs.2.2.1) sp_M (by decide) rfl (Nat.le_of_ble_eq_true rfl) (by decide) ?_
                refine g_goto d_X7_reads_230 ?_
                exact lp_rx (fy_of rs (k := 1) (by decide)) ⟨rfl, _, rfl, fy_of rs (k := 1) (by decide)⟩ _ _
          · have hl1 := tk7_1.mp (nI_inj (b := 1) c110 (by omega) (by decide))
            have hlt : tkC b L p < 256 := by omega
            refine g_aload_n d_X7_reads_113 rfl ?_
            refine mm_getV (v := nI (tkC b L p)) d_X7_reads_114 fl_7_102 sp_M rfl (rs.2.2.2.2.2.2 hlt) ?_
            refine h_S1i d_X7_reads_117 cl_7_125 (m7_kindOf (by omega)) (Nat.le_of_ble_eq_true rfl) (by decide) ?_
            refine g_if_le d_X7_reads_120 (fun c120 => ?_) (fun c120 => absurd (show nI (kindN (tkC b L p)) ≤ 0 by rw [hz]; decide) c120)
            refine g_iconst d_X7_reads_136 ik_0 ?_
            refine w_istore_n (L' := [_, _, _]) d_X7_reads_137 rfl rfl rfl ?_
            refine g_aload_n d_X7_reads_138 rfl ?_
            refine mm_getV (v := nI (tk7 (tkC b L p))) d_X7_reads_139 fl_7_105 sp_M rfl (rs.2.2.2.2.1) ?_
            refine g_iconst d_X7_reads_142 ik_1 ?_
            refine g_icmp_ne d_X7_reads_143 (fun c143 => ?_) (fun c143 => ?_)
            · refine g_iconst d_X7_reads_168 ik_0 ?_
              refine w_istore_n (L' := [_, _, _]) d_X7_reads_169 rfl rfl rfl ?_
              refine g_iload_n d_X7_reads_170 rfl ?_
              refine g_if_eq d_X7_reads_171 (fun c171 => ?_) (fun c171 => absurd c171 (by decide))
              refine g_iload_n d_X7_reads_191 rfl ?_
              refine g_if_eq d_X7_reads_192 (fun c192 => ?_) (fun c192 => absurd c192 (by decide))
              refine g_aload_n d_X7_reads_213 rfl ?_
              refine g_iload_n d_X7_reads_214 rfl ?_
              refine g_if_ne d_X7_reads_215 (fun c215 => absurd c215 (by decide)) (fun c215 => ?_)
              refine g_iload_n d_X7_reads_218 rfl ?_
              refine g_if_eq d_X7_reads_219 (fun c219 => ?_) (fun c219 => absurd c219 (by decide))
              refine g_iconst d_X7_reads_226 ik_1 ?_
              refine h_V1v d_X7_reads_227 cl_7_118 (m7_faulty h0 rs.2.2.1) sp_M (by decide) rfl (Nat.le_of_ble_eq_true rfl) (by decide) ?_
              refine g_goto d_X7_reads_230 ?_
              exact lp_rx (fy_of rs (k := 1) (by decide)) ⟨rfl, _, rfl, fy_of rs (k := 1) (by decide)⟩ _ _
            · have hl2 := tk7_1.mp (nI_inj (b := 1) c143 (by omega) (by decide))
              have hlt2 : tkC b L p < 256 := by omega
              refine g_aload_n d_X7_reads_146 rfl ?_
              refine mm_getV (v := nI (tkC b L p)) d_X7_reads_147 fl_7_102 sp_M rfl (rs.2.2.2.2.2.2 hlt2) ?_
              refine g_bipush d_X7_reads_150 bk_98 ?_
              refine g_icmp_ne d_X7_reads_152 (fun c152 => ?_) (fun c152 => ?_)
              · refine g_iconst d_X7_reads_168 ik_0 ?_
                refine w_istore_n (L' := [_, _, _]) d_X7_reads_169 rfl rfl rfl ?_
                refine g_iload_n d_X7_reads_170 rfl ?_
                refine g_if_eq d_X7_reads_171 (fun c171 => ?_) (fun c171 => absurd c171 (by decide))
                refine g_iload_n d_X7_reads_191 rfl ?_
                refine g_if_eq d_X7_reads_192 (fun c192 => ?_) (fun c192 => absurd c192 (by decide))
                refine g_aload_n d_X7_reads_213 rfl ?_
                refine g_iload_n d_X7_reads_214 rfl ?_
                refine g_if_ne d_X7_reads_215 (fun c215 => absurd c215 (by decide)) (fun c215 => ?_)
                refine g_iload_n d_X7_reads_218 rfl ?_
                refine g_if_eq d_X7_reads_219 (fun c219 => ?_) (fun c219 => absurd c219 (by decide))
                refine g_iconst d_X7_reads_226 ik_1 ?_
                refine h_V1v d_X7_reads_227 cl_7_118 (m7_faulty h0 rs.2.2.1) sp_M (by decide) rfl (Nat.le_of_ble_eq_true rfl) (by decide) ?_
                refine g_goto d_X7_reads_230 ?_
                exact lp_rx (fy_of rs (k := 1) (by decide)) ⟨rfl, _, rfl, fy_of rs (k := 1) (by decide)⟩ _ _
              · refine g_aload_n d_X7_reads_155 rfl ?_
                refine h_getR d_X7_reads_156 fl_7_22 sp_M rfl ?_
                refine g_iconst d_X7_reads_159 ik_0 ?_
                refine mm_aldV (k := 0) (v := nI M) d_X7_reads_160 (j := 5) sp_m_draft rfl (by decide) rfl (by omega) (by decide) (dr.1) ?_
                refine g_if_le d_X7_reads_161 (fun c161 => ?_) (fun c161 => absurd (show nI M ≤ 0 by rw [hM0]; decide) c161)
                refine g_iconst d_X7_reads_168 ik_0 ?_
                refine w_istore_n (L' := [_, _, _]) d_X7_reads_169 rfl rfl rfl ?_
                refine g_iload_n d_X7_reads_170 rfl ?_
                refine g_if_eq d_X7_reads_171 (fun c171 => ?_) (fun c171 => absurd c171 (by decide))
                refine g_iload_n d_X7_reads_191 rfl ?_
                refine g_if_eq d_X7_reads_192 (fun c192 => ?_) (fun c192 => absurd c192 (by decide))
                refine g_aload_n d_X7_reads_213 rfl ?_
                refine g_iload_n d_X7_reads_214 rfl ?_
                refine g_if_ne d_X7_reads_215 (fun c215 => absurd c215 (by decide)) (fun c215 => ?_)
                refine g_iload_n d_X7_reads_218 rfl ?_
                refine g_if_eq d_X7_reads_219 (fun c219 => ?_) (fun c219 => absurd c219 (by decide))
                refine g_iconst d_X7_reads_226 ik_1 ?_
                refine h_V1v d_X7_reads_227 cl_7_118 (m7_faulty h0 rs.2.2.1) sp_M (by decide) rfl (Nat.le_of_ble_eq_true rfl) (by decide) ?_
                refine g_goto d_X7_reads_230 ?_
                exact lp_rx (fy_of rs (k := 1) (by decide)) ⟨rfl, _, rfl, fy_of rs (k := 1) (by decide)⟩ _ _
        · refine g_aload_n d_X7_reads_96 rfl ?_
          refine h_getR d_X7_reads_97 fl_7_22 sp_M rfl ?_
          refine g_iconst d_X7_reads_100 ik_1 ?_
          refine mm_aldV (k := 1) (v := 0) d_X7_reads_101 (j := 5) sp_m_draft rfl (by decide) rfl (by omega) (by decide) (dr.2.1) ?_
          refine g_if_gt d_X7_reads_102 (fun c102 => absurd c102 (by decide)) (fun c102 => ?_)
          refine g_aload_n d_X7_reads_105 rfl ?_
          refine mm_getV (v := nI (tk7 (tkC b L p))) d_X7_reads_106 fl_7_105 sp_M rfl (rs.2.2.2.2.1) ?_
          refine g_iconst d_X7_reads_109 ik_1 ?_
          refine g_icmp_ne d_X7_reads_110 (fun c110 => ?_) (fun c110 => ?_)
          · refine g_iconst d_X7_reads_136 ik_0 ?_
            refine w_istore_n (L' := [_, _, _]) d_X7_reads_137 rfl rfl rfl ?_
            refine g_aload_n d_X7_reads_138 rfl ?_
            refine mm_getV (v := nI (tk7 (tkC b L p))) d_X7_reads_139 fl_7_105 sp_M rfl (rs.2.2.2.2.1) ?_
            refine g_iconst d_X7_reads_142 ik_1 ?_
            refine g_icmp_ne d_X7_reads_143 (fun c143 => ?_) (fun c143 => ?_)
            · refine g_iconst d_X7_reads_168 ik_0 ?_
              refine w_istore_n (L' := [_, _, _]) d_X7_reads_169 rfl rfl rfl ?_
              refine g_iload_n d_X7_reads_170 rfl ?_
              refine g_if_eq d_X7_reads_171 (fun c171 => ?_) (fun c171 => absurd c171 (by decide))
              refine g_iload_n d_X7_reads_191 rfl ?_
              refine g_if_eq d_X7_reads_192 (fun c192 => ?_) (fun c192 => absurd c192 (by decide))
              refine g_aload_n d_X7_reads_213 rfl ?_
              refine g_iload_n d_X7_reads_214 rfl ?_
              refine g_if_ne d_X7_reads_215 (fun c215 => absurd c215 (by decide)) (fun c215 => ?_)
              refine g_iload_n d_X7_reads_218 rfl ?_
              refine g_if_eq d_X7_reads_219 (fun c219 => ?_) (fun c219 => absurd c219 (by decide))
              refine g_iconst d_X7_reads_226 ik_1 ?_
              refine h_V1v d_X7_reads_227 cl_7_118 (m7_faulty h0 rs.2.2.1) sp_M (by decide) rfl (Nat.le_of_ble_eq_true rfl) (by decide) ?_
              refine g_goto d_X7_reads_230 ?_
              exact lp_rx (fy_of rs (k := 1) (by decide)) ⟨rfl, _, rfl, fy_of rs (k := 1) (by decide)⟩ _ _
            · have hl2 := tk7_1.mp (nI_inj (b := 1) c143 (by omega) (by decide))
              have hlt2 : tkC b L p < 256 := by omega
              refine g_aload_n d_X7_reads_146 rfl ?_
              refine mm_getV (v := nI (tkC b L p)) d_X7_reads_147 fl_7_102 sp_M rfl (rs.2.2.2.2.2.2 hlt2) ?_
              refine g_bipush d_X7_reads_150 bk_98 ?_
              refine g_icmp_ne d_X7_reads_152 (fun c152 => ?_) (fun c152 => ?_)
              · refine g_iconst d_X7_reads_168 ik_0 ?_
                refine w_istore_n (L' := [_, _, _]) d_X7_reads_169 rfl rfl rfl ?_
                refine g_iload_n d_X7_reads_170 rfl ?_
                refine g_if_eq d_X7_reads_171 (fun c171 => ?_) (fun c171 => absurd c171 (by decide))
                refine g_iload_n d_X7_reads_191 rfl ?_
                refine g_if_eq d_X7_reads_192 (fun c192 => ?_) (fun c192 => absurd c192 (by decide))
                refine g_aload_n d_X7_reads_213 rfl ?_
                refine g_iload_n d_X7_reads_214 rfl ?_
                refine g_if_ne d_X7_reads_215 (fun c215 => absurd c215 (by decide)) (fun c215 => ?_)
                refine g_iload_n d_X7_reads_218 rfl ?_
                refine g_if_eq d_X7_reads_219 (fun c219 => ?_) (fun c219 => absurd c219 (by decide))
                refine g_iconst d_X7_reads_226 ik_1 ?_
                refine h_V1v d_X7_reads_227 cl_7_118 (m7_faulty h0 rs.2.2.1) sp_M (by decide) rfl (Nat.le_of_ble_eq_true rfl) (by decide) ?_
                refine g_goto d_X7_reads_230 ?_
                exact lp_rx (fy_of rs (k := 1) (by decide)) ⟨rfl, _, rfl, fy_of rs (k := 1) (by decide)⟩ _ _
              · refine g_aload_n d_X7_reads_155 rfl ?_
                refine h_getR d_X7_reads_156 fl_7_22 sp_M rfl ?_
                refine g_iconst d_X7_reads_159 ik_0 ?_
                refine mm_aldV (k := 0) (v := nI M) d_X7_reads_160 (j := 5) sp_m_draft rfl (by decide) rfl (by omega) (by decide) (dr.1) ?_
                refine g_if_le d_X7_reads_161 (fun c161 => ?_) (fun c161 => absurd (show nI M ≤ 0 by rw [hM0]; decide) c161)
                refine g_iconst d_X7_reads_168 ik_0 ?_
                refine w_istore_n (L' := [_, _, _]) d_X7_reads_169 rfl rfl rfl ?_
                refine g_iload_n d_X7_reads_170 rfl ?_
                refine g_if_eq d_X7_reads_171 (fun c171 => ?_) (fun c171 => absurd c171 (by decide))
                refine g_iload_n d_X7_reads_191 rfl ?_
                refine g_if_eq d_X7_reads_192 (fun c192 => ?_) (fun c192 => absurd c192 (by decide))
                refine g_aload_n d_X7_reads_213 rfl ?_
                refine g_iload_n d_X7_reads_214 rfl ?_
                refine g_if_ne d_X7_reads_215 (fun c215 => absurd c215 (by decide)) (fun c215 => ?_)
                refine g_iload_n d_X7_reads_218 rfl ?_
                refine g_if_eq d_X7_reads_219 (fun c219 => ?_) (fun c219 => absurd c219 (by decide))
                refine g_iconst d_X7_reads_226 ik_1 ?_
                refine h_V1v d_X7_reads_227 cl_7_118 (m7_faulty h0 rs.2.2.1) sp_M (by decide) rfl (Nat.le_of_ble_eq_true rfl) (by decide) ?_
                refine g_goto d_X7_reads_230 ?_
                exact lp_rx (fy_of rs (k := 1) (by decide)) ⟨rfl, _, rfl, fy_of rs (k := 1) (by decide)⟩ _ _
          · have hl1 := tk7_1.mp (nI_inj (b := 1) c110 (by omega) (by decide))
            have hlt : tkC b L p < 256 := by omega
            refine g_aload_n d_X7_reads_113 rfl ?_
            refine mm_getV (v := nI (tkC b L p)) d_X7_reads_114 fl_7_102 sp_M rfl (rs.2.2.2.2.2.2 hlt) ?_
            refine h_S1i d_X7_reads_117 cl_7_125 (m7_kindOf (by omega)) (Nat.le_of_ble_eq_true rfl) (by decide) ?_
            refine g_if_le d_X7_reads_120 (fun c120 => ?_) (fun c120 => absurd (show nI (kindN (tkC b L p)) ≤ 0 by rw [hz]; decide) c120)
            refine g_iconst d_X7_reads_136 ik_0 ?_
            refine w_istore_n (L' := [_, _, _]) d_X7_reads_137 rfl rfl rfl ?_
            refine g_aload_n d_X7_reads_138 rfl ?_
            refine mm_getV (v := nI (tk7 (tkC b L p))) d_X7_reads_139 fl_7_105 sp_M rfl (rs.2.2.2.2.1) ?_
            refine g_iconst d_X7_reads_142 ik_1 ?_
            refine g_icmp_ne d_X7_reads_143 (fun c143 => ?_) (fun c143 => ?_)
            · refine g_iconst d_X7_reads_168 ik_0 ?_
              refine w_istore_n (L' := [_, _, _]) d_X7_reads_169 rfl rfl rfl ?_
              refine g_iload_n d_X7_reads_170 rfl ?_
              refine g_if_eq d_X7_reads_171 (fun c171 => ?_) (fun c171 => absurd c171 (by decide))
              refine g_iload_n d_X7_reads_191 rfl ?_
              refine g_if_eq d_X7_reads_192 (fun c192 => ?_) (fun c192 => absurd c192 (by decide))
              refine g_aload_n d_X7_reads_213 rfl ?_
              refine g_iload_n d_X7_reads_214 rfl ?_
              refine g_if_ne d_X7_reads_215 (fun c215 => absurd c215 (by decide)) (fun c215 => ?_)
              refine g_iload_n d_X7_reads_218 rfl ?_
              refine g_if_eq d_X7_reads_219 (fun c219 => ?_) (fun c219 => absurd c219 (by decide))
              refine g_iconst d_X7_reads_226 ik_1 ?_
              refine h_V1v d_X7_reads_227 cl_7_118 (m7_faulty h0 rs.2.2.1) sp_M (by decide) rfl (Nat.le_of_ble_eq_true rfl) (by decide) ?_
              refine g_goto d_X7_reads_230 ?_
              exact lp_rx (fy_of rs (k := 1) (by decide)) ⟨rfl, _, rfl, fy_of rs (k := 1) (by decide)⟩ _ _
            · have hl2 := tk7_1.mp (nI_inj (b := 1) c143 (by omega) (by decide))
              have hlt2 : tkC b L p < 256 := by omega
              refine g_aload_n d_X7_reads_146 rfl ?_
              refine mm_getV (v := nI (tkC b L p)) d_X7_reads_147 fl_7_102 sp_M rfl (rs.2.2.2.2.2.2 hlt2) ?_
              refine g_bipush d_X7_reads_150 bk_98 ?_
              refine g_icmp_ne d_X7_reads_152 (fun c152 => ?_) (fun c152 => ?_)
              · refine g_iconst d_X7_reads_168 ik_0 ?_
                refine w_istore_n (L' := [_, _, _]) d_X7_reads_169 rfl rfl rfl ?_
                refine g_iload_n d_X7_reads_170 rfl ?_
                refine g_if_eq d_X7_reads_171 (fun c171 => ?_) (fun c171 => absurd c171 (by decide))
                refine g_iload_n d_X7_reads_191 rfl ?_
                refine g_if_eq d_X7_reads_192 (fun c192 => ?_) (fun c192 => absurd c192 (by decide))
                refine g_aload_n d_X7_reads_213 rfl ?_
                refine g_iload_n d_X7_reads_214 rfl ?_
                refine g_if_ne d_X7_reads_215 (fun c215 => absurd c215 (by decide)) (fun c215 => ?_)
                refine g_iload_n d_X7_reads_218 rfl ?_
                refine g_if_eq d_X7_reads_219 (fun c219 => ?_) (fun c219 => absurd c219 (by decide))
                refine g_iconst d_X7_reads_226 ik_1 ?_
                refine h_V1v d_X7_reads_227 cl_7_118 (m7_faulty h0 rs.2.2.1) sp_M (by decide) rfl (Nat.le_of_ble_eq_true rfl) (by decide) ?_
                refine g_goto d_X7_reads_230 ?_
                exact lp_rx (fy_of rs (k := 1) (by decide)) ⟨rfl, _, rfl, fy_of rs (k := 1) (by decide)⟩ _ _
              · refine g_aload_n d_X7_reads_155 rfl ?_
                refine h_getR d_X7_reads_156 fl_7_22 sp_M rfl ?_
                refine g_iconst d_X7_reads_159 ik_0 ?_
                refine mm_aldV (k := 0) (v := nI M) d_X7_reads_160 (j := 5) sp_m_draft rfl (by decide) rfl (by omega) (by decide) (dr.1) ?_
                refine g_if_le d_X7_reads_161 (fun c161 => ?_) (fun c161 => absurd (show nI M ≤ 0 by rw [hM0]; decide) c161)
                refine g_iconst d_X7_reads_168 ik_0 ?_
                refine w_istore_n (L' := [_, _, _]) d_X7_reads_169 rfl rfl rfl ?_
                refine g_iload_n d_X7_reads_170 rfl ?_
                refine g_if_eq d_X7_reads_171 (fun c171 => ?_) (fun c171 => absurd c171 (by decide))
                refine g_iload_n d_X7_reads_191 rfl ?_
                refine g_if_eq d_X7_reads_192 (fun c192 => ?_) (fun c192 => absurd c192 (by decide))
                refine g_aload_n d_X7_reads_213 rfl ?_
                refine g_iload_n d_X7_reads_214 rfl ?_
                refine g_if_ne d_X7_reads_215 (fun c215 => absurd c215 (by decide)) (fun c215 => ?_)
                refine g_iload_n d_X7_reads_218 rfl ?_
                refine g_if_eq d_X7_reads_219 (fun c219 => ?_) (fun c219 => absurd c219 (by decide))
                refine g_iconst d_X7_reads_226 ik_1 ?_
                refine h_V1v d_X7_reads_227 cl_7_118 (m7_faulty h0 rs.2.2.1) sp_M (by decide) rfl (Nat.le_of_ble_eq_true rfl) (by decide) ?_
                refine g_goto d_X7_reads_230 ?_
                exact lp_rx (fy_of rs (k := 1) (by decide)) ⟨rfl, _, rfl, fy_of rs (k := 1) (by decide)⟩ _ _
      · rw [show pMs b L (f + 1 + 1) M p g = .ok (M, p, g) by rw [pMs, if_pos hz, if_neg hM0]]
        exact lp_rl7 6 0 p g w1 rfl rs h0 dr (by omega) (by omega) (fun _ => hz) y1 y2
    · have hl := kindN_l hz
      have t1 : tk7 (tkC b L p) = 1 := tk7_1.mpr (by omega)
      refine g_aload_n d_X7_reads_82 rfl ?_
      refine h_V0i d_X7_reads_83 cl_7_111 (m7_isWell h0) sp_M (by decide) rfl (Nat.le_of_ble_eq_true rfl) (by decide) ?_
      refine g_if_eq d_X7_reads_86 (fun c86 => absurd c86 (by decide)) (fun c86 => ?_)
      refine g_aload_n d_X7_reads_89 rfl ?_
      refine mm_getV (v := nI (tk7 (tkC b L p))) d_X7_reads_90 fl_7_105 sp_M rfl (rs.2.2.2.2.1) ?_
      refine g_if_ne d_X7_reads_93 (fun c93 => ?_) (fun c93 => absurd c93 (by rw [t1]; decide))
      refine g_aload_n d_X7_reads_105 rfl ?_
      refine mm_getV (v := nI (tk7 (tkC b L p))) d_X7_reads_106 fl_7_105 sp_M rfl (rs.2.2.2.2.1) ?_
      refine g_iconst d_X7_reads_109 ik_1 ?_
      refine g_icmp_ne d_X7_reads_110 (fun c110 => absurd (show nI (tk7 (tkC b L p)) = 1 by rw [t1]; rfl) c110) (fun c110 => ?_)
      have hl1 := tk7_1.mp (nI_inj (b := 1) c110 (by omega) (by decide))
      have hlt : tkC b L p < 256 := by omega
      refine g_aload_n d_X7_reads_113 rfl ?_
      refine mm_getV (v := nI (tkC b L p)) d_X7_reads_114 fl_7_102 sp_M rfl (rs.2.2.2.2.2.2 hlt) ?_
      refine h_S1i d_X7_reads_117 cl_7_125 (m7_kindOf (by omega)) (Nat.le_of_ble_eq_true rfl) (by decide) ?_
      refine g_if_le d_X7_reads_120 (fun c120 => absurd c120 (nI_ge (a := 0) (b := kindN (tkC b L p)) (by omega) (by omega))) (fun c120 => ?_)
      refine g_aload_n d_X7_reads_123 rfl ?_
      refine h_getR d_X7_reads_124 fl_7_22 sp_M rfl ?_
      refine g_iconst d_X7_reads_127 ik_1 ?_
      refine mm_aldV (k := 1) (v := 0) d_X7_reads_128 (j := 5) sp_m_draft rfl (by decide) rfl (by omega) (by decide) (dr.2.1) ?_
      refine g_if_ne d_X7_reads_129 (fun c129 => absurd rfl c129) (fun c129 => ?_)
      refine g_iconst d_X7_reads_132 ik_1 ?_
      refine g_goto d_X7_reads_133 ?_
      refine w_istore_n (L' := [_, _, _]) d_X7_reads_137 rfl rfl rfl ?_
      refine g_aload_n d_X7_reads_138 rfl ?_
      refine mm_getV (v := nI (tk7 (tkC b L p))) d_X7_reads_139 fl_7_105 sp_M rfl (rs.2.2.2.2.1) ?_
      refine g_iconst d_X7_reads_142 ik_1 ?_
      refine g_icmp_ne d_X7_reads_143 (fun c143 => absurd (show nI (tk7 (tkC b L p)) = 1 by rw [t1]; rfl) c143) (fun c143 => ?_)
      have hl2 := tk7_1.mp (nI_inj (b := 1) c143 (by omega) (by decide))
      have hlt2 : tkC b L p < 256 := by omega
      refine g_aload_n d_X7_reads_146 rfl ?_
      refine mm_getV (v := nI (tkC b L p)) d_X7_reads_147 fl_7_102 sp_M rfl (rs.2.2.2.2.2.2 hlt2) ?_
      refine g_bipush d_X7_reads_150 bk_98 ?_
      refine g_icmp_ne d_X7_reads_152 (fun c152 => ?_) (fun c152 => absurd c152 (fun z => hl.2.2 (nI_inj (b := 98) z (by omega) (by decide))))
      refine g_iconst d_X7_reads_168 ik_0 ?_
      refine w_istore_n (L' := [_, _, _]) d_X7_reads_169 rfl rfl rfl ?_
      refine g_iload_n d_X7_reads_170 rfl ?_
      refine g_if_eq d_X7_reads_171 (fun c171 => absurd c171 (by decide)) (fun c171 => ?_)
      refine g_aload_n d_X7_reads_174 rfl ?_
      refine h_getR d_X7_reads_175 fl_7_22 sp_M rfl ?_
      refine g_iconst d_X7_reads_178 ik_0 ?_
      refine mm_aldV (k := 0) (v := nI M) d_X7_reads_179 (j := 5) sp_m_draft rfl (by decide) rfl (by omega) (by decide) (dr.1) ?_
      refine g_iconst d_X7_reads_180 ik_5 ?_
      refine g_icmp_ge d_X7_reads_181 (fun c181 => absurd c181 (nI_ge (a := M) (b := 5) (by omega) (by omega))) (fun c181 => ?_)
      refine g_aload_n d_X7_reads_184 rfl ?_
      refine h_V0P d_X7_reads_185 cl_7_136 (m7_readsMachine rs h0 dr.1 (by omega) (by omega)) sp_M (by decide) rfl (Nat.le_of_ble_eq_true rfl) (by decide) ?_
      intro u1 k1 hp1
      obtain ⟨rfl, wa, rfl, hp1⟩ := hp1
      cases hq1 : pMach b L p with
      | error e =>
        rw [hq1] at hp1
        rw [show pMs b L (f + 1 + 1) M p g = .error e by rw [pMs, if_neg hz, if_neg (by omega), hq1]]
        refine g_goto d_X7_reads_188 ?_
        refine g_goto d_X7_reads_230 ?_
        exact lp_rx hp1 ⟨rfl, _, rfl, hp1⟩ _ _
      | ok r1 =>
        obtain ⟨v1, v2, q1⟩ := r1
        rw [hq1] at hp1
        obtain ⟨f1, r1', z1, k1, k2, k3, k4, k5, k6⟩ := hp1
        rw [show pMs b L (f + 1 + 1) M p g = pMs b L (f + 1) (M + 1) q1 (addM g M (nI (kindN (tkC b L p))) (nI v1) (nI v2)) by rw [pMs, if_neg hz, if_neg (by omega), hq1]]
        refine g_goto d_X7_reads_188 ?_
        refine g_goto d_X7_reads_230 ?_
        refine h_weaken (ih (M + 1) q1 _ wa (by omega) r1' z1 (dr.addM k1 k2 k3 k4 k5 k6 (by omega)) _ _) ?_
        intro v' h' hp
        obtain ⟨rfl, w2, rfl, hp⟩ := hp
        refine ⟨rfl, w2, rfl, ?_⟩
        cases hx : pMs b L (f + 1) (M + 1) q1 (addM g M (nI (kindN (tkC b L p))) (nI v1) (nI v2)) with
        | error e => rw [hx] at hp; exact f1.fy hp
        | ok r =>
          obtain ⟨M', q', g'⟩ := r
          rw [hx] at hp
          dsimp only at hp ⊢
          cases hy : pLs b L 7 0 q' g' with
          | error e => rw [hy] at hp; exact f1.fy hp
          | ok r =>
            obtain ⟨N', g''⟩ := r
            rw [hy] at hp
            exact ⟨f1.tr hp.1, hp.2.1, hp.2.2⟩

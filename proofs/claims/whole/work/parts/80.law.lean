theorem zTs_in : ∀ w ∈ zTs, w ∈ lw_tbl := fun w h => by
  rcases List.mem_append.mp h with h | h
  · exact wsL_law_in0 w h
  · exact zAt_in w (List.mem_filter.mp h).1
theorem zLt_good : GoodIn zTs (va_wsS RL 71 yL_token wsLt) := fun w hw => by
  have hw' : w ∈ zTs := by
    rcases List.mem_append.mp hw with h | h
    · simp only [List.mem_cons, List.not_mem_nil, or_false] at h
      rcases h with rfl | rfl | rfl
      · exact zTs_0 _ (wr_20 _ (List.mem_of_getElem? (i := 11) rfl))
      · exact zTs_0 _ (wr_20 _ (List.mem_of_getElem? (i := 12) rfl))
      · exact zTs_0 _ (wr_20 _ (List.mem_of_getElem? (i := 13) rfl))
    · rcases List.mem_cons.mp h with rfl | h
      · exact zTs_0 _ (wr_20 _ (List.mem_of_getElem? (i := 14) rfl))
      · exact h
  exact ⟨hw', zTs_good hw'⟩
theorem lg_cmp_self (x : Int64) : lg_cmp x x = zI 0 := by
  unfold lg_cmp
  rw [if_neg (show ¬ x > x from fun h => absurd h (by simp)), if_pos rfl]
  rfl
def vlv (b c9 m9 oa : Nat) (i : Int) (y5 y6 : Option Value) : List (Option Value) := [some (.ref b), some (.ref c9), some (.ref m9), some (.ref oa), some (.int (zI i)), y5, y6]
theorem zR0 : zR 0 := ⟨by decide, by decide⟩
theorem zR1 : zR 1 := ⟨by decide, by decide⟩
section zUl
variable {p : Program} {G : zG} {e : Env} {s : State} {m : MethodId} {below : List Frame} {meth : Method} {c : Code} {b L sa : Nat} {xs : Nat → Int32} {ac am : Nat → Nat} {oa : Nat} {cL : ClassId}
variable {kc ks : Nat} {σ μ : zSt} {f : Nat → Int64}
theorem u_lcmpE (C : zUC p G s m meth c b L sa xs ac am oa cL) {pc : Nat} {lv : List (Option Value)} {st : List Value} {x y : Int64} (hd : decode code pc = .ok (.lcmp, 1)) (he : x = y) (kk : zU p G e s m below meth c b ac am oa cL kc ks (pc + 1) lv (.int (zI 0) :: st) σ μ f) : zU p G e s m below meth c b ac am oa cL kc ks pc lv (.long y :: .long x :: st) σ μ f := by
  refine u_lcmp C hd ?_
  subst he
  rw [lg_cmp_self]
  exact kk
set_option maxRecDepth 100000 in
set_option maxHeartbeats 4000000 in
theorem u_case0 (C : zUC p G s m meth c b L sa xs ac am oa cL) (hL : L ≤ 320) {i N : Int} (h0 : 0 ≤ i) (h1 : i + 5 ≤ (L : Int)) (hN : N + 2000000 ≤ 2000000000) (hkc : kc + 1 ≤ 600384) (hks : ks + 6 ≤ 7286249) {y5 y6 : Option Value} (hrel : zRel σ μ) (hI : zInv N μ) (kk : ∀ (σ1 μ1 : zSt) (f1 : Nat → Int64) (z5 z6 : Option Value), zRel σ1 μ1 → zInv (N + 2000000) μ1 → zU p G e s m below meth c b ac am oa cL (kc + 1) (ks + 6) 709 (vlv b (ac 0) (am 0) oa i z5 z6) [] σ1 μ1 f1) : zU p G e s m below meth c b ac am oa cL kc ks 124 (vlv b (ac 0) (am 0) oa i y5 y6) [] σ μ f := by
  show zU p G e s m below meth c b ac am oa cL kc ks 124 [some (.ref b), some (.ref (ac 0)), some (.ref (am 0)), some (.ref oa), some (.int (zI i)), y5, y6] [] σ μ f
  refine u_aload C (q := 1) (i := 1) dL_law_124 rfl rfl ?_
  refine u_aload C (q := 0) (i := 0) dL_law_125 rfl rfl ?_
  refine u_iload C dL_law_126 rfl ?_
  refine u_iconst C 1 dL_law_128 rfl ?_
  refine u_iadd C dL_law_129 ?_
  refine u_sld C dL_law_130 (by omega) (by omega) hL ?_
  refine u_aload C (q := 0) (i := 0) dL_law_131 rfl rfl ?_
  refine u_iload C dL_law_132 rfl ?_
  refine u_iconst C 2 dL_law_134 rfl ?_
  refine u_iadd C dL_law_135 ?_
  refine u_sld C dL_law_136 (by omega) (by omega) hL ?_
  refine u_aload C (q := 0) (i := 0) dL_law_137 rfl rfl ?_
  refine u_iload C dL_law_138 rfl ?_
  refine u_iconst C 3 dL_law_140 rfl ?_
  refine u_iadd C dL_law_141 ?_
  refine u_sld C dL_law_142 (by omega) (by omega) hL ?_
  refine u_if_eq C (tgt := 150) dL_law_143 (by decide) (sv_R _ _) (fun cA => ?_) (fun cA => ?_)
  · refine u_iconst C 0 dL_law_150 rfl ?_
    refine u_callC C mX6_category [.int (zI (sv xs (i + 1))), .int (zI (sv xs (i + 2))), .int (zI 0)] dL_law_151 zk_X6_category (wr_5 _ (List.mem_of_getElem? (i := 9) rfl)) ⟨Nat.le_of_ble_eq_true rfl, Nat.le_of_ble_eq_true rfl⟩ (Nat.le_of_ble_eq_true rfl) (Nat.le_of_ble_eq_true rfl) (Nat.le_of_succ_le hkc) (Nat.le_trans (Nat.le_add_right _ _) hks) ?_
    refine C_category (G := zGa G ac) μ hrel hI hN (sv xs (i + 1)) (sv xs (i + 2)) 0 (sv_R _ _) (sv_R _ _) zR0 (fun c1 hrel1 => ?_)
    refine u_aload C (q := 2) (i := 2) dL_law_154 rfl rfl ?_
    refine u_aload C (q := 0) (i := 0) dL_law_155 rfl rfl ?_
    refine u_iload C dL_law_156 rfl ?_
    refine u_iconst C 1 dL_law_158 rfl ?_
    refine u_iadd C dL_law_159 ?_
    refine u_sld C dL_law_160 (by omega) (by omega) hL ?_
    refine u_aload C (q := 0) (i := 0) dL_law_161 rfl rfl ?_
    refine u_iload C dL_law_162 rfl ?_
    refine u_iconst C 2 dL_law_164 rfl ?_
    refine u_iadd C dL_law_165 ?_
    refine u_sld C dL_law_166 (by omega) (by omega) hL ?_
    refine u_aload C (q := 0) (i := 0) dL_law_167 rfl rfl ?_
    refine u_iload C dL_law_168 rfl ?_
    refine u_iconst C 3 dL_law_170 rfl ?_
    refine u_iadd C dL_law_171 ?_
    refine u_sld C dL_law_172 (by omega) (by omega) hL ?_
    refine u_if_eq C (tgt := 180) dL_law_173 (by decide) (sv_R _ _) (fun q9 => ?_) (fun q9 => absurd cA q9)
    refine u_iconst C 0 dL_law_180 rfl ?_
    refine u_callM C mX7_category [.int (zI (sv xs (i + 1))), .int (zI (sv xs (i + 2))), .int (zI 0)] dL_law_181 zk_X7_category (wr_6 _ (List.mem_of_getElem? (i := 2) rfl)) ⟨Nat.le_of_ble_eq_true rfl, Nat.le_of_ble_eq_true rfl⟩ (Nat.le_of_ble_eq_true rfl) (Nat.le_of_ble_eq_true rfl) (Nat.le_of_succ_le hkc) (Nat.le_trans (Nat.le_add_right _ _) hks) ?_
    refine R_category (G := zGa G am) hI hN (sv xs (i + 1)) (sv xs (i + 2)) 0 (sv_R _ _) (sv_R _ _) zR0 (fun μ1 he => ?_)
    refine u_icmp_eq C (tgt := 709) dL_law_184 (by decide) rfl ?_
    refine u_wid (Nat.le_succ _) (Nat.le_add_right _ 6) ?_
    exact kk c1 μ1 f _ _ (hrel1.eqM (eqM.symm he)) (zInv_eqM (I_category hI (sv xs (i + 1)) (sv xs (i + 2)) 0 (sv_R _ _) (sv_R _ _) zR0) he)
  · refine u_iconst C 1 dL_law_146 rfl ?_
    refine u_goto C (tgt := 151) dL_law_147 (by decide) ?_
    refine u_callC C mX6_category [.int (zI (sv xs (i + 1))), .int (zI (sv xs (i + 2))), .int (zI 1)] dL_law_151 zk_X6_category (wr_5 _ (List.mem_of_getElem? (i := 9) rfl)) ⟨Nat.le_of_ble_eq_true rfl, Nat.le_of_ble_eq_true rfl⟩ (Nat.le_of_ble_eq_true rfl) (Nat.le_of_ble_eq_true rfl) (Nat.le_of_succ_le hkc) (Nat.le_trans (Nat.le_add_right _ _) hks) ?_
    refine C_category (G := zGa G ac) μ hrel hI hN (sv xs (i + 1)) (sv xs (i + 2)) 1 (sv_R _ _) (sv_R _ _) zR1 (fun c1 hrel1 => ?_)
    refine u_aload C (q := 2) (i := 2) dL_law_154 rfl rfl ?_
    refine u_aload C (q := 0) (i := 0) dL_law_155 rfl rfl ?_
    refine u_iload C dL_law_156 rfl ?_
    refine u_iconst C 1 dL_law_158 rfl ?_
    refine u_iadd C dL_law_159 ?_
    refine u_sld C dL_law_160 (by omega) (by omega) hL ?_
    refine u_aload C (q := 0) (i := 0) dL_law_161 rfl rfl ?_
    refine u_iload C dL_law_162 rfl ?_
    refine u_iconst C 2 dL_law_164 rfl ?_
    refine u_iadd C dL_law_165 ?_
    refine u_sld C dL_law_166 (by omega) (by omega) hL ?_
    refine u_aload C (q := 0) (i := 0) dL_law_167 rfl rfl ?_
    refine u_iload C dL_law_168 rfl ?_
    refine u_iconst C 3 dL_law_170 rfl ?_
    refine u_iadd C dL_law_171 ?_
    refine u_sld C dL_law_172 (by omega) (by omega) hL ?_
    refine u_if_eq C (tgt := 180) dL_law_173 (by decide) (sv_R _ _) (fun q9 => absurd q9 cA) (fun q9 => ?_)
    refine u_iconst C 1 dL_law_176 rfl ?_
    refine u_goto C (tgt := 181) dL_law_177 (by decide) ?_
    refine u_callM C mX7_category [.int (zI (sv xs (i + 1))), .int (zI (sv xs (i + 2))), .int (zI 1)] dL_law_181 zk_X7_category (wr_6 _ (List.mem_of_getElem? (i := 2) rfl)) ⟨Nat.le_of_ble_eq_true rfl, Nat.le_of_ble_eq_true rfl⟩ (Nat.le_of_ble_eq_true rfl) (Nat.le_of_ble_eq_true rfl) (Nat.le_of_succ_le hkc) (Nat.le_trans (Nat.le_add_right _ _) hks) ?_
    refine R_category (G := zGa G am) hI hN (sv xs (i + 1)) (sv xs (i + 2)) 1 (sv_R _ _) (sv_R _ _) zR1 (fun μ1 he => ?_)
    refine u_icmp_eq C (tgt := 709) dL_law_184 (by decide) rfl ?_
    refine u_wid (Nat.le_succ _) (Nat.le_add_right _ 6) ?_
    exact kk c1 μ1 f _ _ (hrel1.eqM (eqM.symm he)) (zInv_eqM (I_category hI (sv xs (i + 1)) (sv xs (i + 2)) 1 (sv_R _ _) (sv_R _ _) zR1) he)
set_option maxRecDepth 100000 in
set_option maxHeartbeats 4000000 in
theorem u_case1 (C : zUC p G s m meth c b L sa xs ac am oa cL) (hL : L ≤ 320) {i N : Int} (h0 : 0 ≤ i) (h1 : i + 5 ≤ (L : Int)) (hN : N + 2000000 ≤ 2000000000) (hkc : kc + 1 ≤ 600384) (hks : ks + 6 ≤ 7286249) {y5 y6 : Option Value} (hrel : zRel σ μ) (hI : zInv N μ) (kk : ∀ (σ1 μ1 : zSt) (f1 : Nat → Int64) (z5 z6 : Option Value), zRel σ1 μ1 → zInv (N + 2000000) μ1 → zU p G e s m below meth c b ac am oa cL (kc + 1) (ks + 6) 709 (vlv b (ac 0) (am 0) oa i z5 z6) [] σ1 μ1 f1) : zU p G e s m below meth c b ac am oa cL kc ks 189 (vlv b (ac 0) (am 0) oa i y5 y6) [] σ μ f := by
  show zU p G e s m below meth c b ac am oa cL kc ks 189 [some (.ref b), some (.ref (ac 0)), some (.ref (am 0)), some (.ref oa), some (.int (zI i)), y5, y6] [] σ μ f
  refine u_aload C (q := 1) (i := 1) dL_law_189 rfl rfl ?_
  refine u_aload C (q := 0) (i := 0) dL_law_190 rfl rfl ?_
  refine u_iload C dL_law_191 rfl ?_
  refine u_iconst C 1 dL_law_193 rfl ?_
  refine u_iadd C dL_law_194 ?_
  refine u_sld C dL_law_195 (by omega) (by omega) hL ?_
  refine u_if_eq C (tgt := 203) dL_law_196 (by decide) (sv_R _ _) (fun cA => ?_) (fun cA => ?_)
  · refine u_iconst C 0 dL_law_203 rfl ?_
    refine u_callC C mX6_group [.int (zI 0)] dL_law_204 zk_X6_group (wr_6 _ (List.mem_of_getElem? (i := 11) rfl)) ⟨Nat.le_of_ble_eq_true rfl, Nat.le_of_ble_eq_true rfl⟩ (Nat.le_of_ble_eq_true rfl) (Nat.le_of_ble_eq_true rfl) (Nat.le_of_succ_le hkc) (Nat.le_trans (Nat.le_add_right _ _) hks) ?_
    refine C_group (G := zGa G ac) μ hrel hI hN 0 zR0 (fun c1 hrel1 => ?_)
    refine u_aload C (q := 2) (i := 2) dL_law_207 rfl rfl ?_
    refine u_aload C (q := 0) (i := 0) dL_law_208 rfl rfl ?_
    refine u_iload C dL_law_209 rfl ?_
    refine u_iconst C 1 dL_law_211 rfl ?_
    refine u_iadd C dL_law_212 ?_
    refine u_sld C dL_law_213 (by omega) (by omega) hL ?_
    refine u_if_eq C (tgt := 221) dL_law_214 (by decide) (sv_R _ _) (fun q9 => ?_) (fun q9 => absurd cA q9)
    refine u_iconst C 0 dL_law_221 rfl ?_
    refine u_callM C mX7_group [.int (zI 0)] dL_law_222 zk_X7_group (wr_7 _ (List.mem_of_getElem? (i := 4) rfl)) ⟨Nat.le_of_ble_eq_true rfl, Nat.le_of_ble_eq_true rfl⟩ (Nat.le_of_ble_eq_true rfl) (Nat.le_of_ble_eq_true rfl) (Nat.le_of_succ_le hkc) (Nat.le_trans (Nat.le_add_right _ _) hks) ?_
    refine R_group (G := zGa G am) hI hN 0 zR0 (fun μ1 he => ?_)
    refine u_icmp_eq C (tgt := 709) dL_law_225 (by decide) rfl ?_
    refine u_wid (Nat.le_succ _) (Nat.le_add_right _ 6) ?_
    exact kk c1 μ1 f _ _ (hrel1.eqM (eqM.symm he)) (zInv_eqM (I_group hI 0 zR0) he)
  · refine u_iconst C 1 dL_law_199 rfl ?_
    refine u_goto C (tgt := 204) dL_law_200 (by decide) ?_
    refine u_callC C mX6_group [.int (zI 1)] dL_law_204 zk_X6_group (wr_6 _ (List.mem_of_getElem? (i := 11) rfl)) ⟨Nat.le_of_ble_eq_true rfl, Nat.le_of_ble_eq_true rfl⟩ (Nat.le_of_ble_eq_true rfl) (Nat.le_of_ble_eq_true rfl) (Nat.le_of_succ_le hkc) (Nat.le_trans (Nat.le_add_right _ _) hks) ?_
    refine C_group (G := zGa G ac) μ hrel hI hN 1 zR1 (fun c1 hrel1 => ?_)
    refine u_aload C (q := 2) (i := 2) dL_law_207 rfl rfl ?_
    refine u_aload C (q := 0) (i := 0) dL_law_208 rfl rfl ?_
    refine u_iload C dL_law_209 rfl ?_
    refine u_iconst C 1 dL_law_211 rfl ?_
    refine u_iadd C dL_law_212 ?_
    refine u_sld C dL_law_213 (by omega) (by omega) hL ?_
    refine u_if_eq C (tgt := 221) dL_law_214 (by decide) (sv_R _ _) (fun q9 => absurd q9 cA) (fun q9 => ?_)
    refine u_iconst C 1 dL_law_217 rfl ?_
    refine u_goto C (tgt := 222) dL_law_218 (by decide) ?_
    refine u_callM C mX7_group [.int (zI 1)] dL_law_222 zk_X7_group (wr_7 _ (List.mem_of_getElem? (i := 4) rfl)) ⟨Nat.le_of_ble_eq_true rfl, Nat.le_of_ble_eq_true rfl⟩ (Nat.le_of_ble_eq_true rfl) (Nat.le_of_ble_eq_true rfl) (Nat.le_of_succ_le hkc) (Nat.le_trans (Nat.le_add_right _ _) hks) ?_
    refine R_group (G := zGa G am) hI hN 1 zR1 (fun μ1 he => ?_)
    refine u_icmp_eq C (tgt := 709) dL_law_225 (by decide) rfl ?_
    refine u_wid (Nat.le_succ _) (Nat.le_add_right _ 6) ?_
    exact kk c1 μ1 f _ _ (hrel1.eqM (eqM.symm he)) (zInv_eqM (I_group hI 1 zR1) he)
set_option maxRecDepth 100000 in
set_option maxHeartbeats 4000000 in
theorem u_case2 (C : zUC p G s m meth c b L sa xs ac am oa cL) (hL : L ≤ 320) {i N : Int} (h0 : 0 ≤ i) (h1 : i + 5 ≤ (L : Int)) (hN : N + 2000000 ≤ 2000000000) (hkc : kc + 1 ≤ 600384) (hks : ks + 6 ≤ 7286249) {y5 y6 : Option Value} (hrel : zRel σ μ) (hI : zInv N μ) (kk : ∀ (σ1 μ1 : zSt) (f1 : Nat → Int64) (z5 z6 : Option Value), zRel σ1 μ1 → zInv (N + 2000000) μ1 → zU p G e s m below meth c b ac am oa cL (kc + 1) (ks + 6) 709 (vlv b (ac 0) (am 0) oa i z5 z6) [] σ1 μ1 f1) : zU p G e s m below meth c b ac am oa cL kc ks 230 (vlv b (ac 0) (am 0) oa i y5 y6) [] σ μ f := by
  show zU p G e s m below meth c b ac am oa cL kc ks 230 [some (.ref b), some (.ref (ac 0)), some (.ref (am 0)), some (.ref oa), some (.int (zI i)), y5, y6] [] σ μ f
  refine u_aload C (q := 1) (i := 1) dL_law_230 rfl rfl ?_
  refine u_aload C (q := 0) (i := 0) dL_law_231 rfl rfl ?_
  refine u_iload C dL_law_232 rfl ?_
  refine u_iconst C 1 dL_law_234 rfl ?_
  refine u_iadd C dL_law_235 ?_
  refine u_sld C dL_law_236 (by omega) (by omega) hL ?_
  refine u_callC C mX6_endSign [.int (zI (sv xs (i + 1)))] dL_law_237 zk_X6_endSign (wr_7 _ (List.mem_of_getElem? (i := 8) rfl)) ⟨Nat.le_of_ble_eq_true rfl, Nat.le_of_ble_eq_true rfl⟩ (Nat.le_of_ble_eq_true rfl) (Nat.le_of_ble_eq_true rfl) (Nat.le_of_succ_le hkc) (Nat.le_trans (Nat.le_add_right _ _) hks) ?_
  refine C_endSign (G := zGa G ac) μ hrel hI hN (sv xs (i + 1)) (sv_R _ _) (fun c1 hrel1 => ?_)
  refine u_aload C (q := 2) (i := 2) dL_law_240 rfl rfl ?_
  refine u_aload C (q := 0) (i := 0) dL_law_241 rfl rfl ?_
  refine u_iload C dL_law_242 rfl ?_
  refine u_iconst C 1 dL_law_244 rfl ?_
  refine u_iadd C dL_law_245 ?_
  refine u_sld C dL_law_246 (by omega) (by omega) hL ?_
  refine u_callM C mX7_endSign [.int (zI (sv xs (i + 1)))] dL_law_247 zk_X7_endSign (wr_7 _ (List.mem_of_getElem? (i := 12) rfl)) ⟨Nat.le_of_ble_eq_true rfl, Nat.le_of_ble_eq_true rfl⟩ (Nat.le_of_ble_eq_true rfl) (Nat.le_of_ble_eq_true rfl) (Nat.le_of_succ_le hkc) (Nat.le_trans (Nat.le_add_right _ _) hks) ?_
  refine R_endSign (G := zGa G am) hI hN (sv xs (i + 1)) (sv_R _ _) (fun μ1 he => ?_)
  refine u_icmp_eq C (tgt := 709) dL_law_250 (by decide) rfl ?_
  refine u_wid (Nat.le_succ _) (Nat.le_add_right _ 6) ?_
  exact kk c1 μ1 f _ _ (hrel1.eqM (eqM.symm he)) (zInv_eqM (I_endSign hI (sv xs (i + 1)) (sv_R _ _)) he)
set_option maxRecDepth 100000 in
set_option maxHeartbeats 4000000 in
theorem u_case3 (C : zUC p G s m meth c b L sa xs ac am oa cL) (hL : L ≤ 320) {i N : Int} (h0 : 0 ≤ i) (h1 : i + 5 ≤ (L : Int)) (hN : N + 2000000 ≤ 2000000000) (hkc : kc + 1 ≤ 600384) (hks : ks + 6 ≤ 7286249) {y5 y6 : Option Value} (hrel : zRel σ μ) (hI : zInv N μ) (kk : ∀ (σ1 μ1 : zSt) (f1 : Nat → Int64) (z5 z6 : Option Value), zRel σ1 μ1 → zInv (N + 2000000) μ1 → zU p G e s m below meth c b ac am oa cL (kc + 1) (ks + 6) 709 (vlv b (ac 0) (am 0) oa i z5 z6) [] σ1 μ1 f1) : zU p G e s m below meth c b ac am oa cL kc ks 255 (vlv b (ac 0) (am 0) oa i y5 y6) [] σ μ f := by
  show zU p G e s m below meth c b ac am oa cL kc ks 255 [some (.ref b), some (.ref (ac 0)), some (.ref (am 0)), some (.ref oa), some (.int (zI i)), y5, y6] [] σ μ f
  refine u_aload C (q := 1) (i := 1) dL_law_255 rfl rfl ?_
  refine u_aload C (q := 0) (i := 0) dL_law_256 rfl rfl ?_
  refine u_iload C dL_law_257 rfl ?_
  refine u_iconst C 1 dL_law_259 rfl ?_
  refine u_iadd C dL_law_260 ?_
  refine u_sld C dL_law_261 (by omega) (by omega) hL ?_
  refine u_aload C (q := 0) (i := 0) dL_law_262 rfl rfl ?_
  refine u_iload C dL_law_263 rfl ?_
  refine u_iconst C 2 dL_law_265 rfl ?_
  refine u_iadd C dL_law_266 ?_
  refine u_sld C dL_law_267 (by omega) (by omega) hL ?_
  refine u_if_eq C (tgt := 275) dL_law_268 (by decide) (sv_R _ _) (fun cA => ?_) (fun cA => ?_)
  · refine u_iconst C 0 dL_law_275 rfl ?_
    refine u_callC C mX6_meaning [.int (zI (sv xs (i + 1))), .int (zI 0)] dL_law_276 zk_X6_meaning (wr_7 _ (List.mem_of_getElem? (i := 16) rfl)) ⟨Nat.le_of_ble_eq_true rfl, Nat.le_of_ble_eq_true rfl⟩ (Nat.le_of_ble_eq_true rfl) (Nat.le_of_ble_eq_true rfl) (Nat.le_of_succ_le hkc) (Nat.le_trans (Nat.le_add_right _ _) hks) ?_
    refine C_meaning (G := zGa G ac) μ hrel hI hN (sv xs (i + 1)) 0 (sv_R _ _) (Or.inl rfl) (fun c1 hrel1 => ?_)
    refine u_aload C (q := 2) (i := 2) dL_law_279 rfl rfl ?_
    refine u_aload C (q := 0) (i := 0) dL_law_280 rfl rfl ?_
    refine u_iload C dL_law_281 rfl ?_
    refine u_iconst C 1 dL_law_283 rfl ?_
    refine u_iadd C dL_law_284 ?_
    refine u_sld C dL_law_285 (by omega) (by omega) hL ?_
    refine u_aload C (q := 0) (i := 0) dL_law_286 rfl rfl ?_
    refine u_iload C dL_law_287 rfl ?_
    refine u_iconst C 2 dL_law_289 rfl ?_
    refine u_iadd C dL_law_290 ?_
    refine u_sld C dL_law_291 (by omega) (by omega) hL ?_
    refine u_if_eq C (tgt := 299) dL_law_292 (by decide) (sv_R _ _) (fun q9 => ?_) (fun q9 => absurd cA q9)
    refine u_iconst C 0 dL_law_299 rfl ?_
    refine u_callM C mX7_meaning [.int (zI (sv xs (i + 1))), .int (zI 0)] dL_law_300 zk_X7_meaning (wr_7 _ (List.mem_of_getElem? (i := 20) rfl)) ⟨Nat.le_of_ble_eq_true rfl, Nat.le_of_ble_eq_true rfl⟩ (Nat.le_of_ble_eq_true rfl) (Nat.le_of_ble_eq_true rfl) (Nat.le_of_succ_le hkc) (Nat.le_trans (Nat.le_add_right _ _) hks) ?_
    refine R_meaning (G := zGa G am) hI hN (sv xs (i + 1)) 0 (sv_R _ _) (Or.inl rfl) (fun μ1 he => ?_)
    refine u_icmp_eq C (tgt := 709) dL_law_303 (by decide) rfl ?_
    refine u_wid (Nat.le_succ _) (Nat.le_add_right _ 6) ?_
    exact kk c1 μ1 f _ _ (hrel1.eqM (eqM.symm he)) (zInv_eqM (I_meaning hI (sv xs (i + 1)) 0 (sv_R _ _) (Or.inl rfl)) he)
  · refine u_iconst C 1 dL_law_271 rfl ?_
    refine u_goto C (tgt := 276) dL_law_272 (by decide) ?_
    refine u_callC C mX6_meaning [.int (zI (sv xs (i + 1))), .int (zI 1)] dL_law_276 zk_X6_meaning (wr_7 _ (List.mem_of_getElem? (i := 16) rfl)) ⟨Nat.le_of_ble_eq_true rfl, Nat.le_of_ble_eq_true rfl⟩ (Nat.le_of_ble_eq_true rfl) (Nat.le_of_ble_eq_true rfl) (Nat.le_of_succ_le hkc) (Nat.le_trans (Nat.le_add_right _ _) hks) ?_
    refine C_meaning (G := zGa G ac) μ hrel hI hN (sv xs (i + 1)) 1 (sv_R _ _) (Or.inr rfl) (fun c1 hrel1 => ?_)
    refine u_aload C (q := 2) (i := 2) dL_law_279 rfl rfl ?_
    refine u_aload C (q := 0) (i := 0) dL_law_280 rfl rfl ?_
    refine u_iload C dL_law_281 rfl ?_
    refine u_iconst C 1 dL_law_283 rfl ?_
    refine u_iadd C dL_law_284 ?_
    refine u_sld C dL_law_285 (by omega) (by omega) hL ?_
    refine u_aload C (q := 0) (i := 0) dL_law_286 rfl rfl ?_
    refine u_iload C dL_law_287 rfl ?_
    refine u_iconst C 2 dL_law_289 rfl ?_
    refine u_iadd C dL_law_290 ?_
    refine u_sld C dL_law_291 (by omega) (by omega) hL ?_
    refine u_if_eq C (tgt := 299) dL_law_292 (by decide) (sv_R _ _) (fun q9 => absurd q9 cA) (fun q9 => ?_)
    refine u_iconst C 1 dL_law_295 rfl ?_
    refine u_goto C (tgt := 300) dL_law_296 (by decide) ?_
    refine u_callM C mX7_meaning [.int (zI (sv xs (i + 1))), .int (zI 1)] dL_law_300 zk_X7_meaning (wr_7 _ (List.mem_of_getElem? (i := 20) rfl)) ⟨Nat.le_of_ble_eq_true rfl, Nat.le_of_ble_eq_true rfl⟩ (Nat.le_of_ble_eq_true rfl) (Nat.le_of_ble_eq_true rfl) (Nat.le_of_succ_le hkc) (Nat.le_trans (Nat.le_add_right _ _) hks) ?_
    refine R_meaning (G := zGa G am) hI hN (sv xs (i + 1)) 1 (sv_R _ _) (Or.inr rfl) (fun μ1 he => ?_)
    refine u_icmp_eq C (tgt := 709) dL_law_303 (by decide) rfl ?_
    refine u_wid (Nat.le_succ _) (Nat.le_add_right _ 6) ?_
    exact kk c1 μ1 f _ _ (hrel1.eqM (eqM.symm he)) (zInv_eqM (I_meaning hI (sv xs (i + 1)) 1 (sv_R _ _) (Or.inr rfl)) he)
set_option maxRecDepth 100000 in
set_option maxHeartbeats 4000000 in
theorem u_case4 (C : zUC p G s m meth c b L sa xs ac am oa cL) (hL : L ≤ 320) {i N : Int} (h0 : 0 ≤ i) (h1 : i + 5 ≤ (L : Int)) (hN : N + 2000000 ≤ 2000000000) (hkc : kc + 1 ≤ 600384) (hks : ks + 6 ≤ 7286249) {y5 y6 : Option Value} (hrel : zRel σ μ) (hI : zInv N μ) (kk : ∀ (σ1 μ1 : zSt) (f1 : Nat → Int64) (z5 z6 : Option Value), zRel σ1 μ1 → zInv (N + 2000000) μ1 → zU p G e s m below meth c b ac am oa cL (kc + 1) (ks + 6) 709 (vlv b (ac 0) (am 0) oa i z5 z6) [] σ1 μ1 f1) : zU p G e s m below meth c b ac am oa cL kc ks 308 (vlv b (ac 0) (am 0) oa i y5 y6) [] σ μ f := by
  show zU p G e s m below meth c b ac am oa cL kc ks 308 [some (.ref b), some (.ref (ac 0)), some (.ref (am 0)), some (.ref oa), some (.int (zI i)), y5, y6] [] σ μ f
  refine u_aload C (q := 1) (i := 1) dL_law_308 rfl rfl ?_
  refine u_callC C mX6_file [] dL_law_309 zk_X6_file (wr_8 _ (List.mem_of_getElem? (i := 0) rfl)) ⟨Nat.le_of_ble_eq_true rfl, Nat.le_of_ble_eq_true rfl⟩ (Nat.le_of_ble_eq_true rfl) (Nat.le_of_ble_eq_true rfl) (Nat.le_of_succ_le hkc) (Nat.le_trans (Nat.le_add_right _ _) hks) ?_
  refine C_file (G := zGa G ac) μ hrel hI hN   (fun c1 hrel1 => ?_)
  refine u_aload C (q := 2) (i := 2) dL_law_312 rfl rfl ?_
  refine u_callM C mX7_file [] dL_law_313 zk_X7_file (wr_8 _ (List.mem_of_getElem? (i := 9) rfl)) ⟨Nat.le_of_ble_eq_true rfl, Nat.le_of_ble_eq_true rfl⟩ (Nat.le_of_ble_eq_true rfl) (Nat.le_of_ble_eq_true rfl) (Nat.le_of_succ_le hkc) (Nat.le_trans (Nat.le_add_right _ _) hks) ?_
  refine R_file (G := zGa G am) hI hN   (fun μ1 he => ?_)
  refine u_icmp_eq C (tgt := 709) dL_law_316 (by decide) rfl ?_
  refine u_wid (Nat.le_succ _) (Nat.le_add_right _ 6) ?_
  exact kk c1 μ1 f _ _ (hrel1.eqM (eqM.symm he)) (zInv_eqM (I_file hI  ) he)
set_option maxRecDepth 100000 in
set_option maxHeartbeats 4000000 in
theorem u_case5 (C : zUC p G s m meth c b L sa xs ac am oa cL) (hL : L ≤ 320) {i N : Int} (h0 : 0 ≤ i) (h1 : i + 5 ≤ (L : Int)) (hN : N + 2000000 ≤ 2000000000) (hkc : kc + 1 ≤ 600384) (hks : ks + 6 ≤ 7286249) {y5 y6 : Option Value} (hrel : zRel σ μ) (hI : zInv N μ) (kk : ∀ (σ1 μ1 : zSt) (f1 : Nat → Int64) (z5 z6 : Option Value), zRel σ1 μ1 → zInv (N + 2000000) μ1 → zU p G e s m below meth c b ac am oa cL (kc + 1) (ks + 6) 709 (vlv b (ac 0) (am 0) oa i z5 z6) [] σ1 μ1 f1) : zU p G e s m below meth c b ac am oa cL kc ks 321 (vlv b (ac 0) (am 0) oa i y5 y6) [] σ μ f := by
  show zU p G e s m below meth c b ac am oa cL kc ks 321 [some (.ref b), some (.ref (ac 0)), some (.ref (am 0)), some (.ref oa), some (.int (zI i)), y5, y6] [] σ μ f
  refine u_aload C (q := 1) (i := 1) dL_law_321 rfl rfl ?_
  refine u_aload C (q := 0) (i := 0) dL_law_322 rfl rfl ?_
  refine u_iload C dL_law_323 rfl ?_
  refine u_iconst C 1 dL_law_325 rfl ?_
  refine u_iadd C dL_law_326 ?_
  refine u_sld C dL_law_327 (by omega) (by omega) hL ?_
  refine u_callC C mX6_line [.int (zI (sv xs (i + 1)))] dL_law_328 zk_X6_line (wr_8 _ (List.mem_of_getElem? (i := 14) rfl)) ⟨Nat.le_of_ble_eq_true rfl, Nat.le_of_ble_eq_true rfl⟩ (Nat.le_of_ble_eq_true rfl) (Nat.le_of_ble_eq_true rfl) (Nat.le_of_succ_le hkc) (Nat.le_trans (Nat.le_add_right _ _) hks) ?_
  refine C_line (G := zGa G ac) μ hrel hI hN (sv xs (i + 1)) (sv_R _ _) (fun c1 hrel1 => ?_)
  refine u_aload C (q := 2) (i := 2) dL_law_331 rfl rfl ?_
  refine u_aload C (q := 0) (i := 0) dL_law_332 rfl rfl ?_
  refine u_iload C dL_law_333 rfl ?_
  refine u_iconst C 1 dL_law_335 rfl ?_
  refine u_iadd C dL_law_336 ?_
  refine u_sld C dL_law_337 (by omega) (by omega) hL ?_
  refine u_callM C mX7_line [.int (zI (sv xs (i + 1)))] dL_law_338 zk_X7_line (wr_9 _ (List.mem_of_getElem? (i := 7) rfl)) ⟨Nat.le_of_ble_eq_true rfl, Nat.le_of_ble_eq_true rfl⟩ (Nat.le_of_ble_eq_true rfl) (Nat.le_of_ble_eq_true rfl) (Nat.le_of_succ_le hkc) (Nat.le_trans (Nat.le_add_right _ _) hks) ?_
  refine R_line (G := zGa G am) hI hN (sv xs (i + 1)) (sv_R _ _) (fun μ1 he => ?_)
  refine u_icmp_eq C (tgt := 709) dL_law_341 (by decide) rfl ?_
  refine u_wid (Nat.le_succ _) (Nat.le_add_right _ 6) ?_
  exact kk c1 μ1 f _ _ (hrel1.eqM (eqM.symm he)) (zInv_eqM (I_line hI (sv xs (i + 1)) (sv_R _ _)) he)
set_option maxRecDepth 100000 in
set_option maxHeartbeats 4000000 in
theorem u_case6 (C : zUC p G s m meth c b L sa xs ac am oa cL) (hL : L ≤ 320) {i N : Int} (h0 : 0 ≤ i) (h1 : i + 5 ≤ (L : Int)) (hN : N + 2000000 ≤ 2000000000) (hkc : kc + 1 ≤ 600384) (hks : ks + 6 ≤ 7286249) {y5 y6 : Option Value} (hrel : zRel σ μ) (hI : zInv N μ) (kk : ∀ (σ1 μ1 : zSt) (f1 : Nat → Int64) (z5 z6 : Option Value), zRel σ1 μ1 → zInv (N + 2000000) μ1 → zU p G e s m below meth c b ac am oa cL (kc + 1) (ks + 6) 709 (vlv b (ac 0) (am 0) oa i z5 z6) [] σ1 μ1 f1) : zU p G e s m below meth c b ac am oa cL kc ks 346 (vlv b (ac 0) (am 0) oa i y5 y6) [] σ μ f := by
  show zU p G e s m below meth c b ac am oa cL kc ks 346 [some (.ref b), some (.ref (ac 0)), some (.ref (am 0)), some (.ref oa), some (.int (zI i)), y5, y6] [] σ μ f
  refine u_aload C (q := 1) (i := 1) dL_law_346 rfl rfl ?_
  refine u_aload C (q := 0) (i := 0) dL_law_347 rfl rfl ?_
  refine u_iload C dL_law_348 rfl ?_
  refine u_iconst C 1 dL_law_350 rfl ?_
  refine u_iadd C dL_law_351 ?_
  refine u_sld C dL_law_352 (by omega) (by omega) hL ?_
  refine u_aload C (q := 0) (i := 0) dL_law_353 rfl rfl ?_
  refine u_iload C dL_law_354 rfl ?_
  refine u_iconst C 2 dL_law_356 rfl ?_
  refine u_iadd C dL_law_357 ?_
  refine u_sld C dL_law_358 (by omega) (by omega) hL ?_
  refine u_i2l C dL_law_359 ?_
  refine u_bipush C 32 dL_law_360 (by decide +kernel) ?_
  refine u_lshl C dL_law_362 ?_
  refine u_aload C (q := 0) (i := 0) dL_law_363 rfl rfl ?_
  refine u_iload C dL_law_364 rfl ?_
  refine u_iconst C 3 dL_law_366 rfl ?_
  refine u_iadd C dL_law_367 ?_
  refine u_sld C dL_law_368 (by omega) (by omega) hL ?_
  refine u_i2l C dL_law_369 ?_
  refine u_ldc2 C dL_law_370 (wsL_law_in0 _ (wr_1 _ (List.mem_of_getElem? (i := 7) rfl))) ?_
  refine u_land C dL_law_373 ?_
  refine u_lor C dL_law_374 ?_
  refine u_aload C (q := 0) (i := 0) dL_law_375 rfl rfl ?_
  refine u_iload C dL_law_376 rfl ?_
  refine u_iconst C 4 dL_law_378 rfl ?_
  refine u_iadd C dL_law_379 ?_
  refine u_sld C dL_law_380 (by omega) (by omega) hL ?_
  refine u_callC C mX6_add [.int (zI (sv xs (i + 1))), .long _, .int (zI (sv xs (i + 4)))] dL_law_381 zk_X6_add (wr_9 _ (List.mem_of_getElem? (i := 15) rfl)) ⟨Nat.le_of_ble_eq_true rfl, Nat.le_of_ble_eq_true rfl⟩ (Nat.le_of_ble_eq_true rfl) (Nat.le_of_ble_eq_true rfl) (Nat.le_of_succ_le hkc) (Nat.le_trans (Nat.le_add_right _ _) hks) ?_
  refine C_add (G := zGa G ac) μ hrel hI hN (sv xs (i + 1)) (sv xs (i + 4)) _ (sv_R _ _) (sv_R _ _) (fun c1 hrel1 => ?_)
  refine u_aload C (q := 2) (i := 2) dL_law_384 rfl rfl ?_
  refine u_aload C (q := 0) (i := 0) dL_law_385 rfl rfl ?_
  refine u_iload C dL_law_386 rfl ?_
  refine u_iconst C 1 dL_law_388 rfl ?_
  refine u_iadd C dL_law_389 ?_
  refine u_sld C dL_law_390 (by omega) (by omega) hL ?_
  refine u_aload C (q := 0) (i := 0) dL_law_391 rfl rfl ?_
  refine u_iload C dL_law_392 rfl ?_
  refine u_iconst C 2 dL_law_394 rfl ?_
  refine u_iadd C dL_law_395 ?_
  refine u_sld C dL_law_396 (by omega) (by omega) hL ?_
  refine u_i2l C dL_law_397 ?_
  refine u_bipush C 32 dL_law_398 (by decide +kernel) ?_
  refine u_lshl C dL_law_400 ?_
  refine u_aload C (q := 0) (i := 0) dL_law_401 rfl rfl ?_
  refine u_iload C dL_law_402 rfl ?_
  refine u_iconst C 3 dL_law_404 rfl ?_
  refine u_iadd C dL_law_405 ?_
  refine u_sld C dL_law_406 (by omega) (by omega) hL ?_
  refine u_i2l C dL_law_407 ?_
  refine u_ldc2 C dL_law_408 (wsL_law_in0 _ (wr_1 _ (List.mem_of_getElem? (i := 7) rfl))) ?_
  refine u_land C dL_law_411 ?_
  refine u_lor C dL_law_412 ?_
  refine u_aload C (q := 0) (i := 0) dL_law_413 rfl rfl ?_
  refine u_iload C dL_law_414 rfl ?_
  refine u_iconst C 4 dL_law_416 rfl ?_
  refine u_iadd C dL_law_417 ?_
  refine u_sld C dL_law_418 (by omega) (by omega) hL ?_
  refine u_callM C mX7_add [.int (zI (sv xs (i + 1))), .long _, .int (zI (sv xs (i + 4)))] dL_law_419 zk_X7_add (wr_10 _ (List.mem_of_getElem? (i := 3) rfl)) ⟨Nat.le_of_ble_eq_true rfl, Nat.le_of_ble_eq_true rfl⟩ (Nat.le_of_ble_eq_true rfl) (Nat.le_of_ble_eq_true rfl) (Nat.le_of_succ_le hkc) (Nat.le_trans (Nat.le_add_right _ _) hks) ?_
  refine R_add (G := zGa G am) hI hN (sv xs (i + 1)) (sv xs (i + 4)) _ (sv_R _ _) (sv_R _ _) (fun μ1 he => ?_)
  refine u_icmp_eq C (tgt := 709) dL_law_422 (by decide) rfl ?_
  refine u_wid (Nat.le_succ _) (Nat.le_add_right _ 6) ?_
  exact kk c1 μ1 f _ _ (hrel1.eqM (eqM.symm he)) (zInv_eqM (I_add hI (sv xs (i + 1)) (sv xs (i + 4)) _ (sv_R _ _) (sv_R _ _)) he)
set_option maxRecDepth 100000 in
set_option maxHeartbeats 4000000 in
theorem u_case7 (C : zUC p G s m meth c b L sa xs ac am oa cL) (hL : L ≤ 320) {i N : Int} (h0 : 0 ≤ i) (h1 : i + 5 ≤ (L : Int)) (hN : N + 2000000 ≤ 2000000000) (hkc : kc + 1 ≤ 600384) (hks : ks + 6 ≤ 7286249) {y5 y6 : Option Value} (hrel : zRel σ μ) (hI : zInv N μ) (kk : ∀ (σ1 μ1 : zSt) (f1 : Nat → Int64) (z5 z6 : Option Value), zRel σ1 μ1 → zInv (N + 2000000) μ1 → zU p G e s m below meth c b ac am oa cL (kc + 1) (ks + 6) 709 (vlv b (ac 0) (am 0) oa i z5 z6) [] σ1 μ1 f1) : zU p G e s m below meth c b ac am oa cL kc ks 427 (vlv b (ac 0) (am 0) oa i y5 y6) [] σ μ f := by
  show zU p G e s m below meth c b ac am oa cL kc ks 427 [some (.ref b), some (.ref (ac 0)), some (.ref (am 0)), some (.ref oa), some (.int (zI i)), y5, y6] [] σ μ f
  refine u_aload C (q := 1) (i := 1) dL_law_427 rfl rfl ?_
  refine u_aload C (q := 0) (i := 0) dL_law_428 rfl rfl ?_
  refine u_iload C dL_law_429 rfl ?_
  refine u_iconst C 1 dL_law_431 rfl ?_
  refine u_iadd C dL_law_432 ?_
  refine u_sld C dL_law_433 (by omega) (by omega) hL ?_
  refine u_callC C mX6_open [.int (zI (sv xs (i + 1)))] dL_law_434 zk_X6_open (wr_10 _ (List.mem_of_getElem? (i := 8) rfl)) ⟨Nat.le_of_ble_eq_true rfl, Nat.le_of_ble_eq_true rfl⟩ (Nat.le_of_ble_eq_true rfl) (Nat.le_of_ble_eq_true rfl) (Nat.le_of_succ_le hkc) (Nat.le_trans (Nat.le_add_right _ _) hks) ?_
  refine C_open (G := zGa G ac) μ hrel hI hN (sv xs (i + 1)) (sv_R _ _) (fun c1 hrel1 => ?_)
  refine u_aload C (q := 2) (i := 2) dL_law_437 rfl rfl ?_
  refine u_aload C (q := 0) (i := 0) dL_law_438 rfl rfl ?_
  refine u_iload C dL_law_439 rfl ?_
  refine u_iconst C 1 dL_law_441 rfl ?_
  refine u_iadd C dL_law_442 ?_
  refine u_sld C dL_law_443 (by omega) (by omega) hL ?_
  refine u_callM C mX7_open [.int (zI (sv xs (i + 1)))] dL_law_444 zk_X7_open (wr_10 _ (List.mem_of_getElem? (i := 21) rfl)) ⟨Nat.le_of_ble_eq_true rfl, Nat.le_of_ble_eq_true rfl⟩ (Nat.le_of_ble_eq_true rfl) (Nat.le_of_ble_eq_true rfl) (Nat.le_of_succ_le hkc) (Nat.le_trans (Nat.le_add_right _ _) hks) ?_
  refine R_open (G := zGa G am) hI hN (sv xs (i + 1)) (sv_R _ _) (fun μ1 he => ?_)
  refine u_icmp_eq C (tgt := 709) dL_law_447 (by decide) rfl ?_
  refine u_wid (Nat.le_succ _) (Nat.le_add_right _ 6) ?_
  exact kk c1 μ1 f _ _ (hrel1.eqM (eqM.symm he)) (zInv_eqM (I_open hI (sv xs (i + 1)) (sv_R _ _)) he)
set_option maxRecDepth 100000 in
set_option maxHeartbeats 4000000 in
theorem u_case8 (C : zUC p G s m meth c b L sa xs ac am oa cL) (hL : L ≤ 320) {i N : Int} (h0 : 0 ≤ i) (h1 : i + 5 ≤ (L : Int)) (hN : N + 2000000 ≤ 2000000000) (hkc : kc + 1 ≤ 600384) (hks : ks + 6 ≤ 7286249) {y5 y6 : Option Value} (hrel : zRel σ μ) (hI : zInv N μ) (kk : ∀ (σ1 μ1 : zSt) (f1 : Nat → Int64) (z5 z6 : Option Value), zRel σ1 μ1 → zInv (N + 2000000) μ1 → zU p G e s m below meth c b ac am oa cL (kc + 1) (ks + 6) 709 (vlv b (ac 0) (am 0) oa i z5 z6) [] σ1 μ1 f1) : zU p G e s m below meth c b ac am oa cL kc ks 452 (vlv b (ac 0) (am 0) oa i y5 y6) [] σ μ f := by
  show zU p G e s m below meth c b ac am oa cL kc ks 452 [some (.ref b), some (.ref (ac 0)), some (.ref (am 0)), some (.ref oa), some (.int (zI i)), y5, y6] [] σ μ f
  refine u_aload C (q := 1) (i := 1) dL_law_452 rfl rfl ?_
  refine u_callC C mX6_close [] dL_law_453 zk_X6_close (wr_11 _ (List.mem_of_getElem? (i := 2) rfl)) ⟨Nat.le_of_ble_eq_true rfl, Nat.le_of_ble_eq_true rfl⟩ (Nat.le_of_ble_eq_true rfl) (Nat.le_of_ble_eq_true rfl) (Nat.le_of_succ_le hkc) (Nat.le_trans (Nat.le_add_right _ _) hks) ?_
  refine C_close (G := zGa G ac) μ hrel hI hN   (fun c1 hrel1 => ?_)
  refine u_aload C (q := 2) (i := 2) dL_law_456 rfl rfl ?_
  refine u_callM C mX7_close [] dL_law_457 zk_X7_close (wr_11 _ (List.mem_of_getElem? (i := 11) rfl)) ⟨Nat.le_of_ble_eq_true rfl, Nat.le_of_ble_eq_true rfl⟩ (Nat.le_of_ble_eq_true rfl) (Nat.le_of_ble_eq_true rfl) (Nat.le_of_succ_le hkc) (Nat.le_trans (Nat.le_add_right _ _) hks) ?_
  refine R_close (G := zGa G am) hI hN   (fun μ1 he => ?_)
  refine u_icmp_eq C (tgt := 709) dL_law_460 (by decide) rfl ?_
  refine u_wid (Nat.le_succ _) (Nat.le_add_right _ 6) ?_
  exact kk c1 μ1 f _ _ (hrel1.eqM (eqM.symm he)) (zInv_eqM (I_close hI  ) he)
set_option maxRecDepth 100000 in
set_option maxHeartbeats 4000000 in
theorem u_case9 (C : zUC p G s m meth c b L sa xs ac am oa cL) (hL : L ≤ 320) {i N : Int} (h0 : 0 ≤ i) (h1 : i + 5 ≤ (L : Int)) (hN : N + 2000000 ≤ 2000000000) (hkc : kc + 1 ≤ 600384) (hks : ks + 6 ≤ 7286249) {y5 y6 : Option Value} (hrel : zRel σ μ) (hI : zInv N μ) (kk : ∀ (σ1 μ1 : zSt) (f1 : Nat → Int64) (z5 z6 : Option Value), zRel σ1 μ1 → zInv (N + 2000000) μ1 → zU p G e s m below meth c b ac am oa cL (kc + 1) (ks + 6) 709 (vlv b (ac 0) (am 0) oa i z5 z6) [] σ1 μ1 f1) : zU p G e s m below meth c b ac am oa cL kc ks 465 (vlv b (ac 0) (am 0) oa i y5 y6) [] σ μ f := by
  show zU p G e s m below meth c b ac am oa cL kc ks 465 [some (.ref b), some (.ref (ac 0)), some (.ref (am 0)), some (.ref oa), some (.int (zI i)), y5, y6] [] σ μ f
  refine u_aload C (q := 1) (i := 1) dL_law_465 rfl rfl ?_
  refine u_callC C mX6_next [] dL_law_466 zk_X6_next (wr_11 _ (List.mem_of_getElem? (i := 15) rfl)) ⟨Nat.le_of_ble_eq_true rfl, Nat.le_of_ble_eq_true rfl⟩ (Nat.le_of_ble_eq_true rfl) (Nat.le_of_ble_eq_true rfl) (Nat.le_of_succ_le hkc) (Nat.le_trans (Nat.le_add_right _ _) hks) ?_
  refine C_next (G := zGa G ac) μ hrel hI hN   (fun c1 hrel1 => ?_)
  refine u_aload C (q := 2) (i := 2) dL_law_469 rfl rfl ?_
  refine u_callM C mX7_next [] dL_law_470 zk_X7_next (wr_17 _ (List.mem_of_getElem? (i := 18) rfl)) ⟨Nat.le_of_ble_eq_true rfl, Nat.le_of_ble_eq_true rfl⟩ (Nat.le_of_ble_eq_true rfl) (Nat.le_of_ble_eq_true rfl) (Nat.le_of_succ_le hkc) (Nat.le_trans (Nat.le_add_right _ _) hks) ?_
  refine R_next (G := zGa G am) hI hN   (fun μ1 he => ?_)
  refine u_icmp_eq C (tgt := 709) dL_law_473 (by decide) rfl ?_
  refine u_wid (Nat.le_succ _) (Nat.le_add_right _ 6) ?_
  exact kk c1 μ1 f _ _ (hrel1.eqM (eqM.symm he)) (zInv_eqM (I_next hI  ) he)
set_option maxRecDepth 100000 in
set_option maxHeartbeats 4000000 in
theorem u_case10 (C : zUC p G s m meth c b L sa xs ac am oa cL) (hL : L ≤ 320) {i N : Int} (h0 : 0 ≤ i) (h1 : i + 5 ≤ (L : Int)) (hN : N + 2000000 ≤ 2000000000) (hkc : kc + 1 ≤ 600384) (hks : ks + 6 ≤ 7286249) {y5 y6 : Option Value} (hrel : zRel σ μ) (hI : zInv N μ) (kk : ∀ (σ1 μ1 : zSt) (f1 : Nat → Int64) (z5 z6 : Option Value), zRel σ1 μ1 → zInv (N + 2000000) μ1 → zU p G e s m below meth c b ac am oa cL (kc + 1) (ks + 6) 709 (vlv b (ac 0) (am 0) oa i z5 z6) [] σ1 μ1 f1) : zU p G e s m below meth c b ac am oa cL kc ks 478 (vlv b (ac 0) (am 0) oa i y5 y6) [] σ μ f := by
  show zU p G e s m below meth c b ac am oa cL kc ks 478 [some (.ref b), some (.ref (ac 0)), some (.ref (am 0)), some (.ref oa), some (.int (zI i)), y5, y6] [] σ μ f
  refine u_aload C (q := 1) (i := 1) dL_law_478 rfl rfl ?_
  refine u_callC C mX6_raw [] dL_law_479 zk_X6_raw (wr_20 _ (List.mem_of_getElem? (i := 2) rfl)) ⟨Nat.le_of_ble_eq_true rfl, Nat.le_of_ble_eq_true rfl⟩ (Nat.le_of_ble_eq_true rfl) (Nat.le_of_ble_eq_true rfl) (Nat.le_of_succ_le hkc) (Nat.le_trans (Nat.le_add_right _ _) hks) ?_
  refine C_raw (G := zGa G ac) μ hrel hI hN   (fun c1 hrel1 => ?_)
  refine u_aload C (q := 2) (i := 2) dL_law_482 rfl rfl ?_
  refine u_callM C mX7_raw [] dL_law_483 zk_X7_raw (wr_20 _ (List.mem_of_getElem? (i := 7) rfl)) ⟨Nat.le_of_ble_eq_true rfl, Nat.le_of_ble_eq_true rfl⟩ (Nat.le_of_ble_eq_true rfl) (Nat.le_of_ble_eq_true rfl) (Nat.le_of_succ_le hkc) (Nat.le_trans (Nat.le_add_right _ _) hks) ?_
  refine R_raw (G := zGa G am) hI hN   (fun μ1 he => ?_)
  refine u_icmp_eq C (tgt := 709) dL_law_486 (by decide) rfl ?_
  refine u_wid (Nat.le_succ _) (Nat.le_add_right _ 6) ?_
  exact kk c1 μ1 f _ _ (hrel1.eqM (eqM.symm he)) (zInv_eqM (I_raw hI  ) he)
set_option maxRecDepth 100000 in
set_option maxHeartbeats 4000000 in
theorem u_case12 (C : zUC p G s m meth c b L sa xs ac am oa cL) (hL : L ≤ 320) {i N : Int} (h0 : 0 ≤ i) (h1 : i + 5 ≤ (L : Int)) (hN : N + 2000000 ≤ 2000000000) (hkc : kc + 1 ≤ 600384) (hks : ks + 6 ≤ 7286249) {y5 y6 : Option Value} (hrel : zRel σ μ) (hI : zInv N μ) (kk : ∀ (σ1 μ1 : zSt) (f1 : Nat → Int64) (z5 z6 : Option Value), zRel σ1 μ1 → zInv (N + 2000000) μ1 → zU p G e s m below meth c b ac am oa cL (kc + 1) (ks + 6) 709 (vlv b (ac 0) (am 0) oa i z5 z6) [] σ1 μ1 f1) : zU p G e s m below meth c b ac am oa cL kc ks 559 (vlv b (ac 0) (am 0) oa i y5 y6) [] σ μ f := by
  show zU p G e s m below meth c b ac am oa cL kc ks 559 [some (.ref b), some (.ref (ac 0)), some (.ref (am 0)), some (.ref oa), some (.int (zI i)), y5, y6] [] σ μ f
  refine u_aload C (q := 1) (i := 1) dL_law_559 rfl rfl ?_
  refine u_aload C (q := 0) (i := 0) dL_law_560 rfl rfl ?_
  refine u_iload C dL_law_561 rfl ?_
  refine u_iconst C 1 dL_law_563 rfl ?_
  refine u_iadd C dL_law_564 ?_
  refine u_sld C dL_law_565 (by omega) (by omega) hL ?_
  refine u_aload C (q := 0) (i := 0) dL_law_566 rfl rfl ?_
  refine u_iload C dL_law_567 rfl ?_
  refine u_iconst C 2 dL_law_569 rfl ?_
  refine u_iadd C dL_law_570 ?_
  refine u_sld C dL_law_571 (by omega) (by omega) hL ?_
  refine u_callC C mX6_name [.int (zI (sv xs (i + 1))), .int (zI (sv xs (i + 2)))] dL_law_572 zk_X6_name (wr_21 _ (List.mem_of_getElem? (i := 16) rfl)) ⟨Nat.le_of_ble_eq_true rfl, Nat.le_of_ble_eq_true rfl⟩ (Nat.le_of_ble_eq_true rfl) (Nat.le_of_ble_eq_true rfl) (Nat.le_of_succ_le hkc) (Nat.le_trans (Nat.le_add_right _ _) hks) ?_
  refine C_name (G := zGa G ac) μ hrel hI hN (sv xs (i + 1)) (sv xs (i + 2)) (sv_R _ _) (sv_R _ _) (fun c1 hrel1 => ?_)
  refine u_aload C (q := 2) (i := 2) dL_law_575 rfl rfl ?_
  refine u_aload C (q := 0) (i := 0) dL_law_576 rfl rfl ?_
  refine u_iload C dL_law_577 rfl ?_
  refine u_iconst C 1 dL_law_579 rfl ?_
  refine u_iadd C dL_law_580 ?_
  refine u_sld C dL_law_581 (by omega) (by omega) hL ?_
  refine u_aload C (q := 0) (i := 0) dL_law_582 rfl rfl ?_
  refine u_iload C dL_law_583 rfl ?_
  refine u_iconst C 2 dL_law_585 rfl ?_
  refine u_iadd C dL_law_586 ?_
  refine u_sld C dL_law_587 (by omega) (by omega) hL ?_
  refine u_callM C mX7_name [.int (zI (sv xs (i + 1))), .int (zI (sv xs (i + 2)))] dL_law_588 zk_X7_name (wr_21 _ (List.mem_of_getElem? (i := 21) rfl)) ⟨Nat.le_of_ble_eq_true rfl, Nat.le_of_ble_eq_true rfl⟩ (Nat.le_of_ble_eq_true rfl) (Nat.le_of_ble_eq_true rfl) (Nat.le_of_succ_le hkc) (Nat.le_trans (Nat.le_add_right _ _) hks) ?_
  refine R_name (G := zGa G am) hI hN (sv xs (i + 1)) (sv xs (i + 2)) (sv_R _ _) (sv_R _ _) (fun μ1 he => ?_)
  refine u_icmp_eq C (tgt := 709) dL_law_591 (by decide) rfl ?_
  refine u_wid (Nat.le_succ _) (Nat.le_add_right _ 6) ?_
  exact kk c1 μ1 f _ _ (hrel1.eqM (eqM.symm he)) (zInv_eqM (I_name hI (sv xs (i + 1)) (sv xs (i + 2)) (sv_R _ _) (sv_R _ _)) he)
set_option maxRecDepth 100000 in
set_option maxHeartbeats 4000000 in
theorem u_case13 (C : zUC p G s m meth c b L sa xs ac am oa cL) (hL : L ≤ 320) {i N : Int} (h0 : 0 ≤ i) (h1 : i + 5 ≤ (L : Int)) (hN : N + 2000000 ≤ 2000000000) (hkc : kc + 1 ≤ 600384) (hks : ks + 6 ≤ 7286249) {y5 y6 : Option Value} (hrel : zRel σ μ) (hI : zInv N μ) (kk : ∀ (σ1 μ1 : zSt) (f1 : Nat → Int64) (z5 z6 : Option Value), zRel σ1 μ1 → zInv (N + 2000000) μ1 → zU p G e s m below meth c b ac am oa cL (kc + 1) (ks + 6) 709 (vlv b (ac 0) (am 0) oa i z5 z6) [] σ1 μ1 f1) : zU p G e s m below meth c b ac am oa cL kc ks 596 (vlv b (ac 0) (am 0) oa i y5 y6) [] σ μ f := by
  show zU p G e s m below meth c b ac am oa cL kc ks 596 [some (.ref b), some (.ref (ac 0)), some (.ref (am 0)), some (.ref oa), some (.int (zI i)), y5, y6] [] σ μ f
  refine u_aload C (q := 1) (i := 1) dL_law_596 rfl rfl ?_
  refine u_aload C (q := 0) (i := 0) dL_law_597 rfl rfl ?_
  refine u_iload C dL_law_598 rfl ?_
  refine u_iconst C 1 dL_law_600 rfl ?_
  refine u_iadd C dL_law_601 ?_
  refine u_sld C dL_law_602 (by omega) (by omega) hL ?_
  refine u_aload C (q := 0) (i := 0) dL_law_603 rfl rfl ?_
  refine u_iload C dL_law_604 rfl ?_
  refine u_iconst C 2 dL_law_606 rfl ?_
  refine u_iadd C dL_law_607 ?_
  refine u_sld C dL_law_608 (by omega) (by omega) hL ?_
  refine u_callC C mX6_told [.int (zI (sv xs (i + 1))), .int (zI (sv xs (i + 2)))] dL_law_609 zk_X6_told (wr_22 _ (List.mem_of_getElem? (i := 1) rfl)) ⟨Nat.le_of_ble_eq_true rfl, Nat.le_of_ble_eq_true rfl⟩ (Nat.le_of_ble_eq_true rfl) (Nat.le_of_ble_eq_true rfl) (Nat.le_of_succ_le hkc) (Nat.le_trans (Nat.le_add_right _ _) hks) ?_
  refine C_told (G := zGa G ac) μ hrel hI hN (sv xs (i + 1)) (sv xs (i + 2)) (sv_R _ _) (sv_R _ _) (fun c1 hrel1 => ?_)
  refine u_aload C (q := 2) (i := 2) dL_law_612 rfl rfl ?_
  refine u_aload C (q := 0) (i := 0) dL_law_613 rfl rfl ?_
  refine u_iload C dL_law_614 rfl ?_
  refine u_iconst C 1 dL_law_616 rfl ?_
  refine u_iadd C dL_law_617 ?_
  refine u_sld C dL_law_618 (by omega) (by omega) hL ?_
  refine u_aload C (q := 0) (i := 0) dL_law_619 rfl rfl ?_
  refine u_iload C dL_law_620 rfl ?_
  refine u_iconst C 2 dL_law_622 rfl ?_
  refine u_iadd C dL_law_623 ?_
  refine u_sld C dL_law_624 (by omega) (by omega) hL ?_
  refine u_callM C mX7_told [.int (zI (sv xs (i + 1))), .int (zI (sv xs (i + 2)))] dL_law_625 zk_X7_told (wr_22 _ (List.mem_of_getElem? (i := 9) rfl)) ⟨Nat.le_of_ble_eq_true rfl, Nat.le_of_ble_eq_true rfl⟩ (Nat.le_of_ble_eq_true rfl) (Nat.le_of_ble_eq_true rfl) (Nat.le_of_succ_le hkc) (Nat.le_trans (Nat.le_add_right _ _) hks) ?_
  refine R_told (G := zGa G am) hI hN (sv xs (i + 1)) (sv xs (i + 2)) (sv_R _ _) (sv_R _ _) (fun μ1 he => ?_)
  refine u_icmp_eq C (tgt := 709) dL_law_628 (by decide) rfl ?_
  refine u_wid (Nat.le_succ _) (Nat.le_add_right _ 6) ?_
  exact kk c1 μ1 f _ _ (hrel1.eqM (eqM.symm he)) (zInv_eqM (I_told hI (sv xs (i + 1)) (sv xs (i + 2)) (sv_R _ _) (sv_R _ _)) he)
set_option maxRecDepth 100000 in
set_option maxHeartbeats 4000000 in
theorem u_case14 (C : zUC p G s m meth c b L sa xs ac am oa cL) (hL : L ≤ 320) {i N : Int} (h0 : 0 ≤ i) (h1 : i + 5 ≤ (L : Int)) (hN : N + 2000000 ≤ 2000000000) (hkc : kc + 1 ≤ 600384) (hks : ks + 6 ≤ 7286249) {y5 y6 : Option Value} (hrel : zRel σ μ) (hI : zInv N μ) (kk : ∀ (σ1 μ1 : zSt) (f1 : Nat → Int64) (z5 z6 : Option Value), zRel σ1 μ1 → zInv (N + 2000000) μ1 → zU p G e s m below meth c b ac am oa cL (kc + 1) (ks + 6) 709 (vlv b (ac 0) (am 0) oa i z5 z6) [] σ1 μ1 f1) : zU p G e s m below meth c b ac am oa cL kc ks 633 (vlv b (ac 0) (am 0) oa i y5 y6) [] σ μ f := by
  show zU p G e s m below meth c b ac am oa cL kc ks 633 [some (.ref b), some (.ref (ac 0)), some (.ref (am 0)), some (.ref oa), some (.int (zI i)), y5, y6] [] σ μ f
  refine u_aload C (q := 1) (i := 1) dL_law_633 rfl rfl ?_
  refine u_aload C (q := 0) (i := 0) dL_law_634 rfl rfl ?_
  refine u_iload C dL_law_635 rfl ?_
  refine u_iconst C 1 dL_law_637 rfl ?_
  refine u_iadd C dL_law_638 ?_
  refine u_sld C dL_law_639 (by omega) (by omega) hL ?_
  refine u_callC C mX6_categoryOf [.int (zI (sv xs (i + 1)))] dL_law_640 zk_X6_categoryOf (wr_22 _ (List.mem_of_getElem? (i := 13) rfl)) ⟨Nat.le_of_ble_eq_true rfl, Nat.le_of_ble_eq_true rfl⟩ (Nat.le_of_ble_eq_true rfl) (Nat.le_of_ble_eq_true rfl) (Nat.le_of_succ_le hkc) (Nat.le_trans (Nat.le_add_right _ _) hks) ?_
  refine C_categoryOf (G := zGa G ac) μ hrel hI hN (sv xs (i + 1)) (sv_R _ _) (fun c1 hrel1 => ?_)
  refine u_aload C (q := 2) (i := 2) dL_law_643 rfl rfl ?_
  refine u_aload C (q := 0) (i := 0) dL_law_644 rfl rfl ?_
  refine u_iload C dL_law_645 rfl ?_
  refine u_iconst C 1 dL_law_647 rfl ?_
  refine u_iadd C dL_law_648 ?_
  refine u_sld C dL_law_649 (by omega) (by omega) hL ?_
  refine u_callM C mX7_categoryOf [.int (zI (sv xs (i + 1)))] dL_law_650 zk_X7_categoryOf (wr_22 _ (List.mem_of_getElem? (i := 17) rfl)) ⟨Nat.le_of_ble_eq_true rfl, Nat.le_of_ble_eq_true rfl⟩ (Nat.le_of_ble_eq_true rfl) (Nat.le_of_ble_eq_true rfl) (Nat.le_of_succ_le hkc) (Nat.le_trans (Nat.le_add_right _ _) hks) ?_
  refine R_categoryOf (G := zGa G am) hI hN (sv xs (i + 1)) (sv_R _ _) (fun μ1 he => ?_)
  refine u_icmp_eq C (tgt := 709) dL_law_653 (by decide) rfl ?_
  refine u_wid (Nat.le_succ _) (Nat.le_add_right _ 6) ?_
  exact kk c1 μ1 f _ _ (hrel1.eqM (eqM.symm he)) (zInv_eqM (I_categoryOf hI (sv xs (i + 1)) (sv_R _ _)) he)
set_option maxRecDepth 100000 in
set_option maxHeartbeats 4000000 in
theorem u_case15 (C : zUC p G s m meth c b L sa xs ac am oa cL) (hL : L ≤ 320) {i N : Int} (h0 : 0 ≤ i) (h1 : i + 5 ≤ (L : Int)) (hN : N + 2000000 ≤ 2000000000) (hkc : kc + 1 ≤ 600384) (hks : ks + 6 ≤ 7286249) {y5 y6 : Option Value} (hrel : zRel σ μ) (hI : zInv N μ) (kk : ∀ (σ1 μ1 : zSt) (f1 : Nat → Int64) (z5 z6 : Option Value), zRel σ1 μ1 → zInv (N + 2000000) μ1 → zU p G e s m below meth c b ac am oa cL (kc + 1) (ks + 6) 709 (vlv b (ac 0) (am 0) oa i z5 z6) [] σ1 μ1 f1) : zU p G e s m below meth c b ac am oa cL kc ks 658 (vlv b (ac 0) (am 0) oa i y5 y6) [] σ μ f := by
  show zU p G e s m below meth c b ac am oa cL kc ks 658 [some (.ref b), some (.ref (ac 0)), some (.ref (am 0)), some (.ref oa), some (.int (zI i)), y5, y6] [] σ μ f
  refine u_aload C (q := 1) (i := 1) dL_law_658 rfl rfl ?_
  refine u_callC C mX6_state [] dL_law_659 zk_X6_state (wr_22 _ (List.mem_of_getElem? (i := 21) rfl)) ⟨Nat.le_of_ble_eq_true rfl, Nat.le_of_ble_eq_true rfl⟩ (Nat.le_of_ble_eq_true rfl) (Nat.le_of_ble_eq_true rfl) (Nat.le_of_succ_le hkc) (Nat.le_trans (Nat.le_add_right _ _) hks) ?_
  refine C_state (G := zGa G ac) μ hrel hI hN   (fun c1 hrel1 => ?_)
  refine u_aload C (q := 2) (i := 2) dL_law_662 rfl rfl ?_
  refine u_callM C mX7_state [] dL_law_663 zk_X7_state (wr_23 _ (List.mem_of_getElem? (i := 1) rfl)) ⟨Nat.le_of_ble_eq_true rfl, Nat.le_of_ble_eq_true rfl⟩ (Nat.le_of_ble_eq_true rfl) (Nat.le_of_ble_eq_true rfl) (Nat.le_of_succ_le hkc) (Nat.le_trans (Nat.le_add_right _ _) hks) ?_
  refine R_state (G := zGa G am) hI hN   (fun μ1 he => ?_)
  refine u_icmp_eq C (tgt := 709) dL_law_666 (by decide) rfl ?_
  refine u_wid (Nat.le_succ _) (Nat.le_add_right _ 6) ?_
  exact kk c1 μ1 f _ _ (hrel1.eqM (eqM.symm he)) (zInv_eqM (I_state hI  ) he)
set_option maxRecDepth 100000 in
set_option maxHeartbeats 4000000 in
theorem u_case16 (C : zUC p G s m meth c b L sa xs ac am oa cL) (hL : L ≤ 320) {i N : Int} (h0 : 0 ≤ i) (h1 : i + 5 ≤ (L : Int)) (hN : N + 2000000 ≤ 2000000000) (hkc : kc + 1 ≤ 600384) (hks : ks + 6 ≤ 7286249) {y5 y6 : Option Value} (hrel : zRel σ μ) (hI : zInv N μ) (kk : ∀ (σ1 μ1 : zSt) (f1 : Nat → Int64) (z5 z6 : Option Value), zRel σ1 μ1 → zInv (N + 2000000) μ1 → zU p G e s m below meth c b ac am oa cL (kc + 1) (ks + 6) 709 (vlv b (ac 0) (am 0) oa i z5 z6) [] σ1 μ1 f1) : zU p G e s m below meth c b ac am oa cL kc ks 671 (vlv b (ac 0) (am 0) oa i y5 y6) [] σ μ f := by
  show zU p G e s m below meth c b ac am oa cL kc ks 671 [some (.ref b), some (.ref (ac 0)), some (.ref (am 0)), some (.ref oa), some (.int (zI i)), y5, y6] [] σ μ f
  refine u_aload C (q := 1) (i := 1) dL_law_671 rfl rfl ?_
  refine u_aload C (q := 0) (i := 0) dL_law_672 rfl rfl ?_
  refine u_iload C dL_law_673 rfl ?_
  refine u_iconst C 1 dL_law_675 rfl ?_
  refine u_iadd C dL_law_676 ?_
  refine u_sld C dL_law_677 (by omega) (by omega) hL ?_
  refine u_callC C mX6_count [.int (zI (sv xs (i + 1)))] dL_law_678 zk_X6_count (wr_23 _ (List.mem_of_getElem? (i := 5) rfl)) ⟨Nat.le_of_ble_eq_true rfl, Nat.le_of_ble_eq_true rfl⟩ (Nat.le_of_ble_eq_true rfl) (Nat.le_of_ble_eq_true rfl) (Nat.le_of_succ_le hkc) (Nat.le_trans (Nat.le_add_right _ _) hks) ?_
  refine C_count (G := zGa G ac) μ hrel hI hN (sv xs (i + 1)) (sv_R _ _) (fun c1 hrel1 => ?_)
  refine u_aload C (q := 2) (i := 2) dL_law_681 rfl rfl ?_
  refine u_aload C (q := 0) (i := 0) dL_law_682 rfl rfl ?_
  refine u_iload C dL_law_683 rfl ?_
  refine u_iconst C 1 dL_law_685 rfl ?_
  refine u_iadd C dL_law_686 ?_
  refine u_sld C dL_law_687 (by omega) (by omega) hL ?_
  refine u_callM C mX7_count [.int (zI (sv xs (i + 1)))] dL_law_688 zk_X7_count (wr_23 _ (List.mem_of_getElem? (i := 16) rfl)) ⟨Nat.le_of_ble_eq_true rfl, Nat.le_of_ble_eq_true rfl⟩ (Nat.le_of_ble_eq_true rfl) (Nat.le_of_ble_eq_true rfl) (Nat.le_of_succ_le hkc) (Nat.le_trans (Nat.le_add_right _ _) hks) ?_
  refine R_count (G := zGa G am) hI hN (sv xs (i + 1)) (sv_R _ _) (fun μ1 he => ?_)
  refine u_icmp_eq C (tgt := 709) dL_law_691 (by decide) rfl ?_
  refine u_wid (Nat.le_succ _) (Nat.le_add_right _ 6) ?_
  exact kk c1 μ1 f _ _ (hrel1.eqM (eqM.symm he)) (zInv_eqM (I_count hI (sv xs (i + 1)) (sv_R _ _)) he)
set_option maxRecDepth 100000 in
set_option maxHeartbeats 4000000 in
theorem u_case17 (C : zUC p G s m meth c b L sa xs ac am oa cL) (hL : L ≤ 320) {i N : Int} (h0 : 0 ≤ i) (h1 : i + 5 ≤ (L : Int)) (hN : N + 2000000 ≤ 2000000000) (hkc : kc + 1 ≤ 600384) (hks : ks + 6 ≤ 7286249) {y5 y6 : Option Value} (hrel : zRel σ μ) (hI : zInv N μ) (kk : ∀ (σ1 μ1 : zSt) (f1 : Nat → Int64) (z5 z6 : Option Value), zRel σ1 μ1 → zInv (N + 2000000) μ1 → zU p G e s m below meth c b ac am oa cL (kc + 1) (ks + 6) 709 (vlv b (ac 0) (am 0) oa i z5 z6) [] σ1 μ1 f1) : zU p G e s m below meth c b ac am oa cL kc ks 696 (vlv b (ac 0) (am 0) oa i y5 y6) [] σ μ f := by
  show zU p G e s m below meth c b ac am oa cL kc ks 696 [some (.ref b), some (.ref (ac 0)), some (.ref (am 0)), some (.ref oa), some (.int (zI i)), y5, y6] [] σ μ f
  refine u_aload C (q := 1) (i := 1) dL_law_696 rfl rfl ?_
  refine u_callC C mX6_check [] dL_law_697 zk_X6_check (wr_23 _ (List.mem_of_getElem? (i := 20) rfl)) ⟨Nat.le_of_ble_eq_true rfl, Nat.le_of_ble_eq_true rfl⟩ (Nat.le_of_ble_eq_true rfl) (Nat.le_of_ble_eq_true rfl) (Nat.le_of_succ_le hkc) (Nat.le_trans (Nat.le_add_right _ _) hks) ?_
  refine C_check (G := zGa G ac) μ hrel hI hN   (fun c1 hrel1 => ?_)
  refine u_aload C (q := 2) (i := 2) dL_law_700 rfl rfl ?_
  refine u_callM C mX7_check [] dL_law_701 zk_X7_check (wr_24 _ (List.mem_of_getElem? (i := 13) rfl)) ⟨Nat.le_of_ble_eq_true rfl, Nat.le_of_ble_eq_true rfl⟩ (Nat.le_of_ble_eq_true rfl) (Nat.le_of_ble_eq_true rfl) (Nat.le_of_succ_le hkc) (Nat.le_trans (Nat.le_add_right _ _) hks) ?_
  refine R_check (G := zGa G am) hI hN   (fun μ1 he => ?_)
  refine u_icmp_eq C (tgt := 709) dL_law_704 (by decide) rfl ?_
  refine u_wid (Nat.le_succ _) (Nat.le_add_right _ 6) ?_
  exact kk c1 μ1 f _ _ (hrel1.eqM (eqM.symm he)) (zInv_eqM (I_check hI  ) he)
set_option maxRecDepth 100000 in
set_option maxHeartbeats 4000000 in
theorem u_case11 (C : zUC p G s m meth c b L sa xs ac am oa cL) (hL : L ≤ 320) {i N : Int} (h0 : 0 ≤ i) (h1 : i + 5 ≤ (L : Int)) (hN : N + 2000000 ≤ 2000000000) (hkc : kc + 1 ≤ 600384) (hks : ks + 6 ≤ 7286249) {y5 y6 : Option Value} (hrel : zRel σ μ) (hI : zInv N μ) (kk : ∀ (σ1 μ1 : zSt) (f1 : Nat → Int64) (z5 z6 : Option Value), zRel σ1 μ1 → zInv (N + 2000000) μ1 → zU p G e s m below meth c b ac am oa cL (kc + 1) (ks + 6) 709 (vlv b (ac 0) (am 0) oa i z5 z6) [] σ1 μ1 f1) : zU p G e s m below meth c b ac am oa cL kc ks 491 (vlv b (ac 0) (am 0) oa i y5 y6) [] σ μ f := by
  have hn : σ.1 6 1 = μ.1 0 19 := hrel.1.2.2.2.1
  have hto := hI.2.2.2.1
  show zU p G e s m below meth c b ac am oa cL kc ks 491 [some (.ref b), some (.ref (ac 0)), some (.ref (am 0)), some (.ref oa), some (.int (zI i)), y5, y6] [] σ μ f
  refine u_aload C (q := 1) (i := 1) dL_law_491 rfl rfl ?_
  refine u_aload C (q := 0) (i := 0) dL_law_492 rfl rfl ?_
  refine u_iload C dL_law_493 rfl ?_
  refine u_iconst C 1 dL_law_495 rfl ?_
  refine u_iadd C dL_law_496 ?_
  refine u_sld C dL_law_497 (by omega) (by omega) hL ?_
  refine u_aload C (q := 0) (i := 0) dL_law_498 rfl rfl ?_
  refine u_iload C dL_law_499 rfl ?_
  refine u_iconst C 2 dL_law_501 rfl ?_
  refine u_iadd C dL_law_502 ?_
  refine u_sld C dL_law_503 (by omega) (by omega) hL ?_
  refine u_aload C (q := 3) (i := 3) dL_law_504 rfl rfl ?_
  by_cases hv : 0 ≤ (sv xs (i + 1)) ∧ (sv xs (i + 1)) < σ.1 6 1 ∧ 0 ≤ (sv xs (i + 2)) ∧ (sv xs (i + 2)) < 6
  · refine u_tok C (Post := fun v f9 => v = 0 ∧ f9 0 = (zI (σ.2 16 ((sv xs (i + 1)) * 6 + (sv xs (i + 2))))).toInt64) (fun hR SZ => T_Ltok_ok (G := zGa G ac) hR SZ sa (sv xs (i + 1)) (sv xs (i + 2)) (sv_R _ _) hv.1 hv.2.1 (by omega) hv.2.2.1 hv.2.2.2) dL_law_505 (fun w9 hw => C.1.2.2.2.2.2.1 w9 (zTs_in w9 hw)) zLt_good (Nat.le_of_ble_eq_true rfl) hkc hks (fun v f9 hp => ?_)
    obtain ⟨rfl, hf⟩ := hp
    refine u_istore C dL_law_508 (Nat.le_of_ble_eq_true rfl) (Nat.le_of_ble_eq_true rfl) (zpvS (i := 4) rfl rfl) ?_
    refine u_aload C (q := 2) (i := 2) dL_law_510 rfl rfl ?_
    refine u_aload C (q := 0) (i := 0) dL_law_511 rfl rfl ?_
    refine u_iload C dL_law_512 rfl ?_
    refine u_iconst C 1 dL_law_514 rfl ?_
    refine u_iadd C dL_law_515 ?_
    refine u_sld C dL_law_516 (by omega) (by omega) hL ?_
    refine u_aload C (q := 0) (i := 0) dL_law_517 rfl rfl ?_
    refine u_iload C dL_law_518 rfl ?_
    refine u_iconst C 2 dL_law_520 rfl ?_
    refine u_iadd C dL_law_521 ?_
    refine u_sld C dL_law_522 (by omega) (by omega) hL ?_
    refine u_callM C mX7_token [.int (zI (sv xs (i + 1))), .int (zI (sv xs (i + 2)))] dL_law_523 zk_X7_token (wr_21 _ (List.mem_of_getElem? (i := 8) rfl)) ⟨Nat.le_of_ble_eq_true rfl, Nat.le_of_ble_eq_true rfl⟩ (Nat.le_of_ble_eq_true rfl) (Nat.le_of_ble_eq_true rfl) hkc hks ?_
    refine M_X7_token (G := zGa G am) hI (by omega) (sv xs (i + 1)) (sv xs (i + 2)) (sv_R _ _) (sv_R _ _) (fun q1 q2 q3 q4 μ1 he hth => ?_) (fun q9 => absurd ⟨hv.1, hn ▸ hv.2.1, hv.2.2.1, hv.2.2.2⟩ q9)
    have hI1 := zInv_eqM hI he
    refine u_istore C dL_law_526 (Nat.le_of_ble_eq_true rfl) (Nat.le_of_ble_eq_true rfl) (zpvS (i := 5) rfl rfl) ?_
    refine u_aload C (q := 2) (i := 2) dL_law_528 rfl rfl ?_
    refine u_callM C mX7_thrown [] dL_law_529 zk_X7_thrown (wr_21 _ (List.mem_of_getElem? (i := 12) rfl)) ⟨Nat.le_of_ble_eq_true rfl, Nat.le_of_ble_eq_true rfl⟩ (Nat.le_of_ble_eq_true rfl) (Nat.le_of_ble_eq_true rfl) hkc hks ?_
    refine M_X7_thrown (G := zGa G am) hI1 (by omega) ?_
    refine u_iload C dL_law_532 rfl ?_
    refine u_icmp_eq C (tgt := 539) dL_law_534 (by decide) hth ?_
    refine u_iload C dL_law_539 rfl ?_
    refine u_if_ne C (tgt := 556) dL_law_541 (by decide) zR0 (fun h9 => absurd rfl h9) (fun _ => ?_)
    refine u_aload C (q := 3) (i := 3) dL_law_544 rfl rfl ?_
    refine u_iconst C 0 dL_law_545 rfl ?_
    refine u_laload C dL_law_546 rfl ?_
    refine u_iload C dL_law_547 rfl ?_
    refine u_i2l C dL_law_549 ?_
    refine u_lcmpE C dL_law_550 (by rw [hf, hrel.2.1.2.2.2.2.2.2.2.2.1, Int.mul_comm]) ?_
    refine u_if_eq C (tgt := 556) dL_law_551 (by decide) zR0 (fun _ => ?_) (fun h9 => absurd rfl h9)
    refine u_goto C (tgt := 709) dL_law_556 (by decide) ?_
    exact kk σ μ1 f9 _ _ (hrel.eqM (eqM.symm he)) (zInv_mono hI1 (by omega))
  · refine u_tok C (Post := fun v f9 => v = 1 ∧ f9 = f) (fun hR SZ => T_Ltok_bad (G := zGa G ac) C.2.2.2.2.2.2 hR SZ sa (sv xs (i + 1)) (sv xs (i + 2)) (sv_R _ _) (sv_R _ _) hv) dL_law_505 (fun w9 hw => C.1.2.2.2.2.2.1 w9 (zTs_in w9 hw)) zLt_good (Nat.le_of_ble_eq_true rfl) hkc hks (fun v f9 hp => ?_)
    obtain ⟨rfl, hf⟩ := hp
    refine u_istore C dL_law_508 (Nat.le_of_ble_eq_true rfl) (Nat.le_of_ble_eq_true rfl) (zpvS (i := 4) rfl rfl) ?_
    refine u_aload C (q := 2) (i := 2) dL_law_510 rfl rfl ?_
    refine u_aload C (q := 0) (i := 0) dL_law_511 rfl rfl ?_
    refine u_iload C dL_law_512 rfl ?_
    refine u_iconst C 1 dL_law_514 rfl ?_
    refine u_iadd C dL_law_515 ?_
    refine u_sld C dL_law_516 (by omega) (by omega) hL ?_
    refine u_aload C (q := 0) (i := 0) dL_law_517 rfl rfl ?_
    refine u_iload C dL_law_518 rfl ?_
    refine u_iconst C 2 dL_law_520 rfl ?_
    refine u_iadd C dL_law_521 ?_
    refine u_sld C dL_law_522 (by omega) (by omega) hL ?_
    refine u_callM C mX7_token [.int (zI (sv xs (i + 1))), .int (zI (sv xs (i + 2)))] dL_law_523 zk_X7_token (wr_21 _ (List.mem_of_getElem? (i := 8) rfl)) ⟨Nat.le_of_ble_eq_true rfl, Nat.le_of_ble_eq_true rfl⟩ (Nat.le_of_ble_eq_true rfl) (Nat.le_of_ble_eq_true rfl) hkc hks ?_
    refine M_X7_token (G := zGa G am) hI (by omega) (sv xs (i + 1)) (sv xs (i + 2)) (sv_R _ _) (sv_R _ _) (fun q1 q2 q3 q4 => absurd ⟨q1, hn ▸ q2, q3, q4⟩ hv) (fun q9 μ1 he hth => ?_)
    have hI1 := zInv_eqM hI he
    refine u_istore C dL_law_526 (Nat.le_of_ble_eq_true rfl) (Nat.le_of_ble_eq_true rfl) (zpvS (i := 5) rfl rfl) ?_
    refine u_aload C (q := 2) (i := 2) dL_law_528 rfl rfl ?_
    refine u_callM C mX7_thrown [] dL_law_529 zk_X7_thrown (wr_21 _ (List.mem_of_getElem? (i := 12) rfl)) ⟨Nat.le_of_ble_eq_true rfl, Nat.le_of_ble_eq_true rfl⟩ (Nat.le_of_ble_eq_true rfl) (Nat.le_of_ble_eq_true rfl) hkc hks ?_
    refine M_X7_thrown (G := zGa G am) hI1 (by omega) ?_
    refine u_iload C dL_law_532 rfl ?_
    refine u_icmp_eq C (tgt := 539) dL_law_534 (by decide) hth ?_
    refine u_iload C dL_law_539 rfl ?_
    refine u_if_ne C (tgt := 556) dL_law_541 (by decide) zR1 (fun _ => ?_) (fun h9 => absurd h9 (by decide))
    refine u_goto C (tgt := 709) dL_law_556 (by decide) ?_
    exact kk σ μ1 f9 _ _ (hrel.eqM (eqM.symm he)) (zInv_mono hI1 (by omega))
end zUl
def zfl (G : zG) (σ : zSt) (i : Nat) : Nat → List (Option Nat) → List Value
  | _, [] => []
  | j, k :: ks => zval G σ i j k :: zfl G σ i (j + 1) ks
theorem zfl_eq (G : zG) (σ : zSt) (i : Nat) : ∀ (ks : List (Option Nat)) (j : Nat), zfl G σ i j ks = ks.mapIdx (fun n k => zval G σ i (j + n) k)
  | [], _ => rfl
  | k :: ks, j => by
    rw [zfl, List.mapIdx_cons, zfl_eq G σ i ks (j + 1)]
    congr 1
    congr 1
    funext n k
    rw [show j + 1 + n = j + (n + 1) by omega]
theorem zfs_l (G : zG) (σ : zSt) (i : Nat) (ks : List (Option Nat)) : zfs G σ i ks = zfl G σ i 0 ks := by
  rw [zfl_eq, zfs]
  congr 1
  funext n k
  rw [Nat.zero_add]
def zwl (G : zG) (σ : zSt) : Nat → List zSh → va_W
  | _, [] => []
  | i, s :: l => (zad G i, zcell G σ i s) :: zwl G σ (i + 1) l
theorem zwl_eq (G : zG) (σ : zSt) : ∀ (l : List zSh) (i : Nat), zwl G σ i l = l.mapIdx (fun n s => (zad G (i + n), zcell G σ (i + n) s))
  | [], _ => rfl
  | s :: l, i => by
    rw [zwl, List.mapIdx_cons, zwl_eq G σ l (i + 1)]
    congr 1
    congr 1
    funext n k
    rw [show i + 1 + n = i + (n + 1) by omega]
theorem zw_l (G : zG) (σ : zSt) (l : List zSh) : zw G l σ = zwl G σ 0 l := by
  rw [zwl_eq, zw]
  congr 1
  funext n k
  rw [Nat.zero_add]

set_option maxRecDepth 100000 in
theorem L_X7_init {G : zG} {σ : zSt} {Post : Option Value → zSt → Prop} (hR : zRg σ) (h : Post none (zsA (zsA (zsA (zsA (zsF (zsA (zsA (zsA (zsA (zsA (zsA (zsA (zsA (zsA (zsA (zsB σ 1 0 256 zlet) 1 92 0) 1 123 1) 1 125 2) 1 13 5) 1 94 7) 1 0 9) 1 32 10) 1 126 13) 1 37 14) 1 127 15) 0 21 1) 15 0 112) 15 1 97) 15 2 114) 16 0 3)) : ∀ (m : Nat) (i : Int) (y2 : Option Value) (hi0 : 0 ≤ i) (hm : i + m = 256), zV G shM mX7_init 166 [some (.ref (zad G 0)), some (.int (zI i)), y2] [] (zsB σ 1 0 i zlet) Post := by
  intro m
  induction m with
  | zero =>
    intro i y2 hi0 hm
    refine z_iload_1 dX7_init_166 ?_
    refine z_sipush 256 dX7_init_167 (by decide +kernel) ?_
    refine z_icmp_ge (tgt := 226) dX7_init_170 (by decide) (by omega) ⟨by decide, by decide⟩ (fun c170 => ?_) (fun c170 => by exfalso; omega)
    refine z_aload_0 dX7_init_226 ?_
    refine z_getR (j := 1) dX7_init_227 zf_X7_7 rfl rfl ?_
    refine z_bipush 92 dX7_init_230 (by decide +kernel) ?_
    refine z_iconst 0 dX7_init_232 rfl ?_
    refine z_iast dX7_init_233 rfl (by decide) (by omega) (by omega) ⟨by decide, by decide⟩ ?_
    refine z_aload_0 dX7_init_234 ?_
    refine z_getR (j := 1) dX7_init_235 zf_X7_7 rfl rfl ?_
    refine z_bipush 123 dX7_init_238 (by decide +kernel) ?_
    refine z_iconst 1 dX7_init_240 rfl ?_
    refine z_iast dX7_init_241 rfl (by decide) (by omega) (by omega) ⟨by decide, by decide⟩ ?_
    refine z_aload_0 dX7_init_242 ?_
    refine z_getR (j := 1) dX7_init_243 zf_X7_7 rfl rfl ?_
    refine z_bipush 125 dX7_init_246 (by decide +kernel) ?_
    refine z_iconst 2 dX7_init_248 rfl ?_
    refine z_iast dX7_init_249 rfl (by decide) (by omega) (by omega) ⟨by decide, by decide⟩ ?_
    refine z_aload_0 dX7_init_250 ?_
    refine z_getR (j := 1) dX7_init_251 zf_X7_7 rfl rfl ?_
    refine z_bipush 13 dX7_init_254 (by decide +kernel) ?_
    refine z_iconst 5 dX7_init_256 rfl ?_
    refine z_iast dX7_init_257 rfl (by decide) (by omega) (by omega) ⟨by decide, by decide⟩ ?_
    refine z_aload_0 dX7_init_258 ?_
    refine z_getR (j := 1) dX7_init_259 zf_X7_7 rfl rfl ?_
    refine z_bipush 94 dX7_init_262 (by decide +kernel) ?_
    refine z_bipush 7 dX7_init_264 (by decide +kernel) ?_
    refine z_iast dX7_init_266 rfl (by decide) (by omega) (by omega) ⟨by decide, by decide⟩ ?_
    refine z_aload_0 dX7_init_267 ?_
    refine z_getR (j := 1) dX7_init_268 zf_X7_7 rfl rfl ?_
    refine z_iconst 0 dX7_init_271 rfl ?_
    refine z_bipush 9 dX7_init_272 (by decide +kernel) ?_
    refine z_iast dX7_init_274 rfl (by decide) (by omega) (by omega) ⟨by decide, by decide⟩ ?_
    refine z_aload_0 dX7_init_275 ?_
    refine z_getR (j := 1) dX7_init_276 zf_X7_7 rfl rfl ?_
    refine z_bipush 32 dX7_init_279 (by decide +kernel) ?_
    refine z_bipush 10 dX7_init_281 (by decide +kernel) ?_
    refine z_iast dX7_init_283 rfl (by decide) (by omega) (by omega) ⟨by decide, by decide⟩ ?_
    refine z_aload_0 dX7_init_284 ?_
    refine z_getR (j := 1) dX7_init_285 zf_X7_7 rfl rfl ?_
    refine z_bipush 126 dX7_init_288 (by decide +kernel) ?_
    refine z_bipush 13 dX7_init_290 (by decide +kernel) ?_
    refine z_iast dX7_init_292 rfl (by decide) (by omega) (by omega) ⟨by decide, by decide⟩ ?_
    refine z_aload_0 dX7_init_293 ?_
    refine z_getR (j := 1) dX7_init_294 zf_X7_7 rfl rfl ?_
    refine z_bipush 37 dX7_init_297 (by decide +kernel) ?_
    refine z_bipush 14 dX7_init_299 (by decide +kernel) ?_
    refine z_iast dX7_init_301 rfl (by decide) (by omega) (by omega) ⟨by decide, by decide⟩ ?_
    refine z_aload_0 dX7_init_302 ?_
    refine z_getR (j := 1) dX7_init_303 zf_X7_7 rfl rfl ?_
    refine z_bipush 127 dX7_init_306 (by decide +kernel) ?_
    refine z_bipush 15 dX7_init_308 (by decide +kernel) ?_
    refine z_iast dX7_init_310 rfl (by decide) (by omega) (by omega) ⟨by decide, by decide⟩ ?_
    refine z_aload_0 dX7_init_311 ?_
    refine z_iconst 1 dX7_init_312 rfl ?_
    refine z_putI (j := 21) dX7_init_313 zp_X7_69 rfl rfl ⟨by decide, by decide⟩ ?_
    refine z_aload_0 dX7_init_316 ?_
    refine z_getR (j := 22) dX7_init_317 zf_X7_57 rfl rfl ?_
    refine z_iconst 0 dX7_init_320 rfl ?_
    refine z_bipush 112 dX7_init_321 (by decide +kernel) ?_
    refine z_iast dX7_init_323 rfl (by decide) (by omega) (by omega) ⟨by decide, by decide⟩ ?_
    refine z_aload_0 dX7_init_324 ?_
    refine z_getR (j := 22) dX7_init_325 zf_X7_57 rfl rfl ?_
    refine z_iconst 1 dX7_init_328 rfl ?_
    refine z_bipush 97 dX7_init_329 (by decide +kernel) ?_
    refine z_iast dX7_init_331 rfl (by decide) (by omega) (by omega) ⟨by decide, by decide⟩ ?_
    refine z_aload_0 dX7_init_332 ?_
    refine z_getR (j := 22) dX7_init_333 zf_X7_57 rfl rfl ?_
    refine z_iconst 2 dX7_init_336 rfl ?_
    refine z_bipush 114 dX7_init_337 (by decide +kernel) ?_
    refine z_iast dX7_init_339 rfl (by decide) (by omega) (by omega) ⟨by decide, by decide⟩ ?_
    refine z_aload_0 dX7_init_340 ?_
    refine z_getR (j := 23) dX7_init_341 zf_X7_60 rfl rfl ?_
    refine z_iconst 0 dX7_init_344 rfl ?_
    refine z_iconst 3 dX7_init_345 rfl ?_
    refine z_iast dX7_init_346 rfl (by decide) (by omega) (by omega) ⟨by decide, by decide⟩ ?_
    refine z_vret dX7_init_347 rfl ?_
    have e : i = 256 := by omega
    subst e
    exact h
  | succ m ih =>
    intro i y2 hi0 hm
    refine z_iload_1 dX7_init_166 ?_
    refine z_sipush 256 dX7_init_167 (by decide +kernel) ?_
    refine z_icmp_ge (tgt := 226) dX7_init_170 (by decide) (by omega) ⟨by decide, by decide⟩ (fun c170 => by exfalso; omega) (fun c170 => ?_)
    refine z_iload_1 dX7_init_173 ?_
    refine z_bipush 65 dX7_init_174 (by decide +kernel) ?_
    refine z_icmp_lt (tgt := 185) dX7_init_176 (by decide) (by omega) ⟨by decide, by decide⟩ (fun c176 => ?_) (fun c176 => ?_)
    · refine z_iload_1 dX7_init_185 ?_
      refine z_bipush 97 dX7_init_186 (by decide +kernel) ?_
      refine z_icmp_lt (tgt := 201) dX7_init_188 (by decide) (by omega) ⟨by decide, by decide⟩ (fun c188 => ?_) (fun c188 => ?_)
      · refine z_iconst 0 dX7_init_201 rfl ?_
        refine z_istore_2 dX7_init_202 (Nat.le_of_ble_eq_true rfl) rfl ?_
        refine z_aload_0 dX7_init_203 ?_
        refine z_getR (j := 1) dX7_init_204 zf_X7_7 rfl rfl ?_
        refine z_iload_1 dX7_init_207 ?_
        refine z_iload_2 dX7_init_208 ?_
        refine z_if_eq (tgt := 217) dX7_init_209 (by decide) ⟨by decide, by decide⟩ (fun c209 => ?_) (fun c209 => by exfalso; omega)
        refine z_bipush 12 dX7_init_217 (by decide +kernel) ?_
        refine z_iast dX7_init_219 rfl (by decide) (by omega) (by omega) ⟨by decide, by decide⟩ ?_
        refine z_iinc_1 dX7_init_220 (Nat.le_of_ble_eq_true rfl) rfl ?_
        refine z_goto (tgt := 166) dX7_init_223 (by decide) ?_
        exact z_st (zsB_S hi0 (by omega) (by unfold zlet; rw [if_neg (by omega)])) (ih (i + 1) _ (by omega) (by omega))
      · refine z_iload_1 dX7_init_191 ?_
        refine z_bipush 122 dX7_init_192 (by decide +kernel) ?_
        refine z_icmp_gt (tgt := 201) dX7_init_194 (by decide) (by omega) ⟨by decide, by decide⟩ (fun c194 => ?_) (fun c194 => ?_)
        · refine z_iconst 0 dX7_init_201 rfl ?_
          refine z_istore_2 dX7_init_202 (Nat.le_of_ble_eq_true rfl) rfl ?_
          refine z_aload_0 dX7_init_203 ?_
          refine z_getR (j := 1) dX7_init_204 zf_X7_7 rfl rfl ?_
          refine z_iload_1 dX7_init_207 ?_
          refine z_iload_2 dX7_init_208 ?_
          refine z_if_eq (tgt := 217) dX7_init_209 (by decide) ⟨by decide, by decide⟩ (fun c209 => ?_) (fun c209 => by exfalso; omega)
          refine z_bipush 12 dX7_init_217 (by decide +kernel) ?_
          refine z_iast dX7_init_219 rfl (by decide) (by omega) (by omega) ⟨by decide, by decide⟩ ?_
          refine z_iinc_1 dX7_init_220 (Nat.le_of_ble_eq_true rfl) rfl ?_
          refine z_goto (tgt := 166) dX7_init_223 (by decide) ?_
          exact z_st (zsB_S hi0 (by omega) (by unfold zlet; rw [if_neg (by omega)])) (ih (i + 1) _ (by omega) (by omega))
        · refine z_iconst 1 dX7_init_197 rfl ?_
          refine z_goto (tgt := 202) dX7_init_198 (by decide) ?_
          refine z_istore_2 dX7_init_202 (Nat.le_of_ble_eq_true rfl) rfl ?_
          refine z_aload_0 dX7_init_203 ?_
          refine z_getR (j := 1) dX7_init_204 zf_X7_7 rfl rfl ?_
          refine z_iload_1 dX7_init_207 ?_
          refine z_iload_2 dX7_init_208 ?_
          refine z_if_eq (tgt := 217) dX7_init_209 (by decide) ⟨by decide, by decide⟩ (fun c209 => by exfalso; omega) (fun c209 => ?_)
          refine z_bipush 11 dX7_init_212 (by decide +kernel) ?_
          refine z_goto (tgt := 219) dX7_init_214 (by decide) ?_
          refine z_iast dX7_init_219 rfl (by decide) (by omega) (by omega) ⟨by decide, by decide⟩ ?_
          refine z_iinc_1 dX7_init_220 (Nat.le_of_ble_eq_true rfl) rfl ?_
          refine z_goto (tgt := 166) dX7_init_223 (by decide) ?_
          exact z_st (zsB_S hi0 (by omega) (by unfold zlet; rw [if_pos (by omega)])) (ih (i + 1) _ (by omega) (by omega))
    · refine z_iload_1 dX7_init_179 ?_
      refine z_bipush 90 dX7_init_180 (by decide +kernel) ?_
      refine z_icmp_le (tgt := 197) dX7_init_182 (by decide) (by omega) ⟨by decide, by decide⟩ (fun c182 => ?_) (fun c182 => ?_)
      · refine z_iconst 1 dX7_init_197 rfl ?_
        refine z_goto (tgt := 202) dX7_init_198 (by decide) ?_
        refine z_istore_2 dX7_init_202 (Nat.le_of_ble_eq_true rfl) rfl ?_
        refine z_aload_0 dX7_init_203 ?_
        refine z_getR (j := 1) dX7_init_204 zf_X7_7 rfl rfl ?_
        refine z_iload_1 dX7_init_207 ?_
        refine z_iload_2 dX7_init_208 ?_
        refine z_if_eq (tgt := 217) dX7_init_209 (by decide) ⟨by decide, by decide⟩ (fun c209 => by exfalso; omega) (fun c209 => ?_)
        refine z_bipush 11 dX7_init_212 (by decide +kernel) ?_
        refine z_goto (tgt := 219) dX7_init_214 (by decide) ?_
        refine z_iast dX7_init_219 rfl (by decide) (by omega) (by omega) ⟨by decide, by decide⟩ ?_
        refine z_iinc_1 dX7_init_220 (Nat.le_of_ble_eq_true rfl) rfl ?_
        refine z_goto (tgt := 166) dX7_init_223 (by decide) ?_
        exact z_st (zsB_S hi0 (by omega) (by unfold zlet; rw [if_pos (by omega)])) (ih (i + 1) _ (by omega) (by omega))
      · refine z_iload_1 dX7_init_185 ?_
        refine z_bipush 97 dX7_init_186 (by decide +kernel) ?_
        refine z_icmp_lt (tgt := 201) dX7_init_188 (by decide) (by omega) ⟨by decide, by decide⟩ (fun c188 => ?_) (fun c188 => ?_)
        · refine z_iconst 0 dX7_init_201 rfl ?_
          refine z_istore_2 dX7_init_202 (Nat.le_of_ble_eq_true rfl) rfl ?_
          refine z_aload_0 dX7_init_203 ?_
          refine z_getR (j := 1) dX7_init_204 zf_X7_7 rfl rfl ?_
          refine z_iload_1 dX7_init_207 ?_
          refine z_iload_2 dX7_init_208 ?_
          refine z_if_eq (tgt := 217) dX7_init_209 (by decide) ⟨by decide, by decide⟩ (fun c209 => ?_) (fun c209 => by exfalso; omega)
          refine z_bipush 12 dX7_init_217 (by decide +kernel) ?_
          refine z_iast dX7_init_219 rfl (by decide) (by omega) (by omega) ⟨by decide, by decide⟩ ?_
          refine z_iinc_1 dX7_init_220 (Nat.le_of_ble_eq_true rfl) rfl ?_
          refine z_goto (tgt := 166) dX7_init_223 (by decide) ?_
          exact z_st (zsB_S hi0 (by omega) (by unfold zlet; rw [if_neg (by omega)])) (ih (i + 1) _ (by omega) (by omega))
        · refine z_iload_1 dX7_init_191 ?_
          refine z_bipush 122 dX7_init_192 (by decide +kernel) ?_
          refine z_icmp_gt (tgt := 201) dX7_init_194 (by decide) (by omega) ⟨by decide, by decide⟩ (fun c194 => ?_) (fun c194 => ?_)
          · refine z_iconst 0 dX7_init_201 rfl ?_
            refine z_istore_2 dX7_init_202 (Nat.le_of_ble_eq_true rfl) rfl ?_
            refine z_aload_0 dX7_init_203 ?_
            refine z_getR (j := 1) dX7_init_204 zf_X7_7 rfl rfl ?_
            refine z_iload_1 dX7_init_207 ?_
            refine z_iload_2 dX7_init_208 ?_
            refine z_if_eq (tgt := 217) dX7_init_209 (by decide) ⟨by decide, by decide⟩ (fun c209 => ?_) (fun c209 => by exfalso; omega)
            refine z_bipush 12 dX7_init_217 (by decide +kernel) ?_
            refine z_iast dX7_init_219 rfl (by decide) (by omega) (by omega) ⟨by decide, by decide⟩ ?_
            refine z_iinc_1 dX7_init_220 (Nat.le_of_ble_eq_true rfl) rfl ?_
            refine z_goto (tgt := 166) dX7_init_223 (by decide) ?_
            exact z_st (zsB_S hi0 (by omega) (by unfold zlet; rw [if_neg (by omega)])) (ih (i + 1) _ (by omega) (by omega))
          · refine z_iconst 1 dX7_init_197 rfl ?_
            refine z_goto (tgt := 202) dX7_init_198 (by decide) ?_
            refine z_istore_2 dX7_init_202 (Nat.le_of_ble_eq_true rfl) rfl ?_
            refine z_aload_0 dX7_init_203 ?_
            refine z_getR (j := 1) dX7_init_204 zf_X7_7 rfl rfl ?_
            refine z_iload_1 dX7_init_207 ?_
            refine z_iload_2 dX7_init_208 ?_
            refine z_if_eq (tgt := 217) dX7_init_209 (by decide) ⟨by decide, by decide⟩ (fun c209 => by exfalso; omega) (fun c209 => ?_)
            refine z_bipush 11 dX7_init_212 (by decide +kernel) ?_
            refine z_goto (tgt := 219) dX7_init_214 (by decide) ?_
            refine z_iast dX7_init_219 rfl (by decide) (by omega) (by omega) ⟨by decide, by decide⟩ ?_
            refine z_iinc_1 dX7_init_220 (Nat.le_of_ble_eq_true rfl) rfl ?_
            refine z_goto (tgt := 166) dX7_init_223 (by decide) ?_
            exact z_st (zsB_S hi0 (by omega) (by unfold zlet; rw [if_pos (by omega)])) (ih (i + 1) _ (by omega) (by omega))

set_option maxRecDepth 100000 in
set_option maxHeartbeats 4000000 in
theorem T_X7_init {G : zG} {σ : zSt} {Post : Option Value → zSt → Prop} (h : Post none (zsA (zsA (zsA (zsA (zsF (zsA (zsA (zsA (zsA (zsA (zsA (zsA (zsA (zsA (zsA (zsB σ 1 0 256 zlet) 1 92 0) 1 123 1) 1 125 2) 1 13 5) 1 94 7) 1 0 9) 1 32 10) 1 126 13) 1 37 14) 1 127 15) 0 21 1) 15 0 112) 15 1 97) 15 2 114) 16 0 3)) : zV G shM mX7_init 164 [some (.ref (zad G 0)), none, none] [] σ Post := by
  refine z_rg (fun hR => ?_)
  refine z_iconst 0 dX7_init_164 rfl ?_
  refine z_istore_1 dX7_init_165 (Nat.le_of_ble_eq_true rfl) rfl ?_
  exact z_st zsB_0.symm (L_X7_init hR h 256 0 none (by omega) (by omega))

def zM0 : zSt := (zsA (zsA (zsA (zsA (zsF (zsA (zsA (zsA (zsA (zsA (zsA (zsA (zsA (zsA (zsA (zsB (zsF zz0 0 5 13) 1 0 256 zlet) 1 92 0) 1 123 1) 1 125 2) 1 13 5) 1 94 7) 1 0 9) 1 32 10) 1 126 13) 1 37 14) 1 127 15) 0 21 1) 15 0 112) 15 1 97) 15 2 114) 16 0 3)
theorem X7_w {G : zG} (h0 q0 q1 q2 q3 q4 q5 q6 q7 q8 q9 q10 q11 q12 q13 q14 q15 q16 q17 : Nat) : [(h0, .inr (9, [.int (zI 0), .ref q0, .ref q1, .int (zI 0), .ref q2, .int (zI 13), .int (zI 0), .ref q3, .ref q4, .ref q5, .int (zI 0), .ref q6, .ref q7, .ref q8, .ref q9, .ref q10, .ref q11, .ref q12, .int (zI 0), .int (zI 0), .ref q13, .int (zI 0), .ref q14, .ref q15, .int (zI 0), .ref q16, .int (zI 0), .int (zI 0), .ref q17, .int (zI 0)])), (q0, .inl (G.2.2.2.1, 256, .inl (fun _ => zI 0))), (q1, .inl (G.2.2.2.1, 5120, .inl (fun _ => zI 0))), (q2, .inl (G.2.2.2.2.1, 256, .inl (fun _ => zI 0))), (q3, .inl (G.2.2.2.1, 8, .inl (fun _ => zI 0))), (q4, .inl (G.2.2.2.1, 240, .inl (fun _ => zI 0))), (q5, .inl (G.2.2.2.1, 28800, .inl (fun _ => zI 0))), (q6, .inl (G.2.2.2.1, 6, .inl (fun _ => zI 0))), (q7, .inl (G.2.2.2.1, 6, .inl (fun _ => zI 0))), (q8, .inl (G.2.2.2.1, 768, .inl (fun _ => zI 0))), (q9, .inl (G.2.2.2.1, 6, .inl (fun _ => zI 0))), (q10, .inl (G.2.2.2.1, 6, .inl (fun _ => zI 0))), (q11, .inl (G.2.2.2.1, 6, .inl (fun _ => zI 0))), (q12, .inl (G.2.2.2.2.1, 6, .inl (fun _ => zI 0))), (q13, .inl (G.2.2.2.1, 3600, .inl (fun _ => zI 0))), (q14, .inl (G.2.2.2.1, 6000, .inl (fun _ => zI 0))), (q15, .inl (G.2.2.2.1, 150, .inl (fun _ => zI 0))), (q16, .inl (G.2.2.2.1, 300, .inl (fun _ => zI 0))), (q17, .inl (G.2.2.2.1, 40, .inl (fun _ => zI 0)))] = zw (zGa G (fun i => [h0, q0, q1, q2, q3, q4, q5, q6, q7, q8, q9, q10, q11, q12, q13, q14, q15, q16, q17].getD i 0)) shM (zsF zz0 0 5 13) := by
  rw [zw_l]
  unfold shM
  simp only [zwl]
  refine List.cons_eq_cons.mpr ⟨?_, ?_⟩
  · rw [zcell, zfs_l]
    rfl
  · rfl

set_option maxRecDepth 100000 in
set_option maxHeartbeats 4000000 in
theorem c_X7_init {G : zG} {Post : va_W → Prop} (h0 : Nat) (h : ∀ q0 q1 q2 q3 q4 q5 q6 q7 q8 q9 q10 q11 q12 q13 q14 q15 q16 q17 : Nat, Post (zw (zGa G (fun i => [h0, q0, q1, q2, q3, q4, q5, q6, q7, q8, q9, q10, q11, q12, q13, q14, q15, q16, q17].getD i 0)) shM zM0)) : zN G mX7_init 0 0 0 (zini 3 [.ref h0]) [] [(h0, .inr (9, [.int (zI 0), .null, .null, .int (zI 0), .null, .int (zI 0), .int (zI 0), .null, .null, .null, .int (zI 0), .null, .null, .null, .null, .null, .null, .null, .int (zI 0), .int (zI 0), .null, .int (zI 0), .null, .null, .int (zI 0), .null, .int (zI 0), .int (zI 0), .null, .int (zI 0)]))] Post := by
  refine n_lv (lv' := [some (.ref h0), none, none]) rfl ?_
  refine n_aload (i := 0) dX7_init_0 rfl rfl ?_
  refine n_obj dX7_init_1 zo_X7 zn_objI zn_objC (Nat.le_of_ble_eq_true rfl) (Nat.le_of_ble_eq_true rfl) ?_
  refine n_aload (i := 0) dX7_init_4 rfl rfl ?_
  refine n_sipush 256 dX7_init_5 (by decide +kernel) ?_
  refine n_newaI 256 dX7_init_8 rfl (by decide) (Nat.le_of_ble_eq_true rfl) (Nat.le_of_ble_eq_true rfl) zn_arrI (fun q0 => ?_)
  refine n_ws (ws' := [(h0, .inr (9, [.int (zI 0), .null, .null, .int (zI 0), .null, .int (zI 0), .int (zI 0), .null, .null, .null, .int (zI 0), .null, .null, .null, .null, .null, .null, .null, .int (zI 0), .int (zI 0), .null, .int (zI 0), .null, .null, .int (zI 0), .null, .int (zI 0), .int (zI 0), .null, .int (zI 0)])), (q0, .inl (G.2.2.2.1, 256, .inl (fun _ => zI 0)))]) rfl ?_
  refine n_putF 0 dX7_init_10 zq_X7_7 rfl (Nat.le_of_ble_eq_true rfl) rfl rfl ?_
  refine n_ws (ws' := [(h0, .inr (9, [.int (zI 0), .ref q0, .null, .int (zI 0), .null, .int (zI 0), .int (zI 0), .null, .null, .null, .int (zI 0), .null, .null, .null, .null, .null, .null, .null, .int (zI 0), .int (zI 0), .null, .int (zI 0), .null, .null, .int (zI 0), .null, .int (zI 0), .int (zI 0), .null, .int (zI 0)])), (q0, .inl (G.2.2.2.1, 256, .inl (fun _ => zI 0)))]) rfl ?_
  refine n_aload (i := 0) dX7_init_13 rfl rfl ?_
  refine n_sipush 5120 dX7_init_14 (by decide +kernel) ?_
  refine n_newaI 5120 dX7_init_17 rfl (by decide) (Nat.le_of_ble_eq_true rfl) (Nat.le_of_ble_eq_true rfl) zn_arrI (fun q1 => ?_)
  refine n_ws (ws' := [(h0, .inr (9, [.int (zI 0), .ref q0, .null, .int (zI 0), .null, .int (zI 0), .int (zI 0), .null, .null, .null, .int (zI 0), .null, .null, .null, .null, .null, .null, .null, .int (zI 0), .int (zI 0), .null, .int (zI 0), .null, .null, .int (zI 0), .null, .int (zI 0), .int (zI 0), .null, .int (zI 0)])), (q0, .inl (G.2.2.2.1, 256, .inl (fun _ => zI 0))), (q1, .inl (G.2.2.2.1, 5120, .inl (fun _ => zI 0)))]) rfl ?_
  refine n_putF 0 dX7_init_19 zq_X7_13 rfl (Nat.le_of_ble_eq_true rfl) rfl rfl ?_
  refine n_ws (ws' := [(h0, .inr (9, [.int (zI 0), .ref q0, .ref q1, .int (zI 0), .null, .int (zI 0), .int (zI 0), .null, .null, .null, .int (zI 0), .null, .null, .null, .null, .null, .null, .null, .int (zI 0), .int (zI 0), .null, .int (zI 0), .null, .null, .int (zI 0), .null, .int (zI 0), .int (zI 0), .null, .int (zI 0)])), (q0, .inl (G.2.2.2.1, 256, .inl (fun _ => zI 0))), (q1, .inl (G.2.2.2.1, 5120, .inl (fun _ => zI 0)))]) rfl ?_
  refine n_aload (i := 0) dX7_init_22 rfl rfl ?_
  refine n_sipush 256 dX7_init_23 (by decide +kernel) ?_
  refine n_newaZ 256 dX7_init_26 rfl (by decide) (Nat.le_of_ble_eq_true rfl) (Nat.le_of_ble_eq_true rfl) zn_arrZ (fun q2 => ?_)
  refine n_ws (ws' := [(h0, .inr (9, [.int (zI 0), .ref q0, .ref q1, .int (zI 0), .null, .int (zI 0), .int (zI 0), .null, .null, .null, .int (zI 0), .null, .null, .null, .null, .null, .null, .null, .int (zI 0), .int (zI 0), .null, .int (zI 0), .null, .null, .int (zI 0), .null, .int (zI 0), .int (zI 0), .null, .int (zI 0)])), (q0, .inl (G.2.2.2.1, 256, .inl (fun _ => zI 0))), (q1, .inl (G.2.2.2.1, 5120, .inl (fun _ => zI 0))), (q2, .inl (G.2.2.2.2.1, 256, .inl (fun _ => zI 0)))]) rfl ?_
  refine n_putF 0 dX7_init_28 zq_X7_16 rfl (Nat.le_of_ble_eq_true rfl) rfl rfl ?_
  refine n_ws (ws' := [(h0, .inr (9, [.int (zI 0), .ref q0, .ref q1, .int (zI 0), .ref q2, .int (zI 0), .int (zI 0), .null, .null, .null, .int (zI 0), .null, .null, .null, .null, .null, .null, .null, .int (zI 0), .int (zI 0), .null, .int (zI 0), .null, .null, .int (zI 0), .null, .int (zI 0), .int (zI 0), .null, .int (zI 0)])), (q0, .inl (G.2.2.2.1, 256, .inl (fun _ => zI 0))), (q1, .inl (G.2.2.2.1, 5120, .inl (fun _ => zI 0))), (q2, .inl (G.2.2.2.2.1, 256, .inl (fun _ => zI 0)))]) rfl ?_
  refine n_aload (i := 0) dX7_init_31 rfl rfl ?_
  refine n_bipush 13 dX7_init_32 (by decide +kernel) ?_
  refine n_putI 0 dX7_init_34 zp_X7_20 rfl (Nat.le_of_ble_eq_true rfl) ?_
  refine n_ws (ws' := [(h0, .inr (9, [.int (zI 0), .ref q0, .ref q1, .int (zI 0), .ref q2, .int (zI 13), .int (zI 0), .null, .null, .null, .int (zI 0), .null, .null, .null, .null, .null, .null, .null, .int (zI 0), .int (zI 0), .null, .int (zI 0), .null, .null, .int (zI 0), .null, .int (zI 0), .int (zI 0), .null, .int (zI 0)])), (q0, .inl (G.2.2.2.1, 256, .inl (fun _ => zI 0))), (q1, .inl (G.2.2.2.1, 5120, .inl (fun _ => zI 0))), (q2, .inl (G.2.2.2.2.1, 256, .inl (fun _ => zI 0)))]) rfl ?_
  refine n_aload (i := 0) dX7_init_37 rfl rfl ?_
  refine n_bipush 8 dX7_init_38 (by decide +kernel) ?_
  refine n_newaI 8 dX7_init_40 rfl (by decide) (Nat.le_of_ble_eq_true rfl) (Nat.le_of_ble_eq_true rfl) zn_arrI (fun q3 => ?_)
  refine n_ws (ws' := [(h0, .inr (9, [.int (zI 0), .ref q0, .ref q1, .int (zI 0), .ref q2, .int (zI 13), .int (zI 0), .null, .null, .null, .int (zI 0), .null, .null, .null, .null, .null, .null, .null, .int (zI 0), .int (zI 0), .null, .int (zI 0), .null, .null, .int (zI 0), .null, .int (zI 0), .int (zI 0), .null, .int (zI 0)])), (q0, .inl (G.2.2.2.1, 256, .inl (fun _ => zI 0))), (q1, .inl (G.2.2.2.1, 5120, .inl (fun _ => zI 0))), (q2, .inl (G.2.2.2.2.1, 256, .inl (fun _ => zI 0))), (q3, .inl (G.2.2.2.1, 8, .inl (fun _ => zI 0)))]) rfl ?_
  refine n_putF 0 dX7_init_42 zq_X7_24 rfl (Nat.le_of_ble_eq_true rfl) rfl rfl ?_
  refine n_ws (ws' := [(h0, .inr (9, [.int (zI 0), .ref q0, .ref q1, .int (zI 0), .ref q2, .int (zI 13), .int (zI 0), .ref q3, .null, .null, .int (zI 0), .null, .null, .null, .null, .null, .null, .null, .int (zI 0), .int (zI 0), .null, .int (zI 0), .null, .null, .int (zI 0), .null, .int (zI 0), .int (zI 0), .null, .int (zI 0)])), (q0, .inl (G.2.2.2.1, 256, .inl (fun _ => zI 0))), (q1, .inl (G.2.2.2.1, 5120, .inl (fun _ => zI 0))), (q2, .inl (G.2.2.2.2.1, 256, .inl (fun _ => zI 0))), (q3, .inl (G.2.2.2.1, 8, .inl (fun _ => zI 0)))]) rfl ?_
  refine n_aload (i := 0) dX7_init_45 rfl rfl ?_
  refine n_sipush 240 dX7_init_46 (by decide +kernel) ?_
  refine n_newaI 240 dX7_init_49 rfl (by decide) (Nat.le_of_ble_eq_true rfl) (Nat.le_of_ble_eq_true rfl) zn_arrI (fun q4 => ?_)
  refine n_ws (ws' := [(h0, .inr (9, [.int (zI 0), .ref q0, .ref q1, .int (zI 0), .ref q2, .int (zI 13), .int (zI 0), .ref q3, .null, .null, .int (zI 0), .null, .null, .null, .null, .null, .null, .null, .int (zI 0), .int (zI 0), .null, .int (zI 0), .null, .null, .int (zI 0), .null, .int (zI 0), .int (zI 0), .null, .int (zI 0)])), (q0, .inl (G.2.2.2.1, 256, .inl (fun _ => zI 0))), (q1, .inl (G.2.2.2.1, 5120, .inl (fun _ => zI 0))), (q2, .inl (G.2.2.2.2.1, 256, .inl (fun _ => zI 0))), (q3, .inl (G.2.2.2.1, 8, .inl (fun _ => zI 0))), (q4, .inl (G.2.2.2.1, 240, .inl (fun _ => zI 0)))]) rfl ?_
  refine n_putF 0 dX7_init_51 zq_X7_27 rfl (Nat.le_of_ble_eq_true rfl) rfl rfl ?_
  refine n_ws (ws' := [(h0, .inr (9, [.int (zI 0), .ref q0, .ref q1, .int (zI 0), .ref q2, .int (zI 13), .int (zI 0), .ref q3, .ref q4, .null, .int (zI 0), .null, .null, .null, .null, .null, .null, .null, .int (zI 0), .int (zI 0), .null, .int (zI 0), .null, .null, .int (zI 0), .null, .int (zI 0), .int (zI 0), .null, .int (zI 0)])), (q0, .inl (G.2.2.2.1, 256, .inl (fun _ => zI 0))), (q1, .inl (G.2.2.2.1, 5120, .inl (fun _ => zI 0))), (q2, .inl (G.2.2.2.2.1, 256, .inl (fun _ => zI 0))), (q3, .inl (G.2.2.2.1, 8, .inl (fun _ => zI 0))), (q4, .inl (G.2.2.2.1, 240, .inl (fun _ => zI 0)))]) rfl ?_
  refine n_aload (i := 0) dX7_init_54 rfl rfl ?_
  refine n_sipush 28800 dX7_init_55 (by decide +kernel) ?_
  refine n_newaI 28800 dX7_init_58 rfl (by decide) (Nat.le_of_ble_eq_true rfl) (Nat.le_of_ble_eq_true rfl) zn_arrI (fun q5 => ?_)
  refine n_ws (ws' := [(h0, .inr (9, [.int (zI 0), .ref q0, .ref q1, .int (zI 0), .ref q2, .int (zI 13), .int (zI 0), .ref q3, .ref q4, .null, .int (zI 0), .null, .null, .null, .null, .null, .null, .null, .int (zI 0), .int (zI 0), .null, .int (zI 0), .null, .null, .int (zI 0), .null, .int (zI 0), .int (zI 0), .null, .int (zI 0)])), (q0, .inl (G.2.2.2.1, 256, .inl (fun _ => zI 0))), (q1, .inl (G.2.2.2.1, 5120, .inl (fun _ => zI 0))), (q2, .inl (G.2.2.2.2.1, 256, .inl (fun _ => zI 0))), (q3, .inl (G.2.2.2.1, 8, .inl (fun _ => zI 0))), (q4, .inl (G.2.2.2.1, 240, .inl (fun _ => zI 0))), (q5, .inl (G.2.2.2.1, 28800, .inl (fun _ => zI 0)))]) rfl ?_
  refine n_putF 0 dX7_init_60 zq_X7_30 rfl (Nat.le_of_ble_eq_true rfl) rfl rfl ?_
  refine n_ws (ws' := [(h0, .inr (9, [.int (zI 0), .ref q0, .ref q1, .int (zI 0), .ref q2, .int (zI 13), .int (zI 0), .ref q3, .ref q4, .ref q5, .int (zI 0), .null, .null, .null, .null, .null, .null, .null, .int (zI 0), .int (zI 0), .null, .int (zI 0), .null, .null, .int (zI 0), .null, .int (zI 0), .int (zI 0), .null, .int (zI 0)])), (q0, .inl (G.2.2.2.1, 256, .inl (fun _ => zI 0))), (q1, .inl (G.2.2.2.1, 5120, .inl (fun _ => zI 0))), (q2, .inl (G.2.2.2.2.1, 256, .inl (fun _ => zI 0))), (q3, .inl (G.2.2.2.1, 8, .inl (fun _ => zI 0))), (q4, .inl (G.2.2.2.1, 240, .inl (fun _ => zI 0))), (q5, .inl (G.2.2.2.1, 28800, .inl (fun _ => zI 0)))]) rfl ?_
  refine n_aload (i := 0) dX7_init_63 rfl rfl ?_
  refine n_bipush 6 dX7_init_64 (by decide +kernel) ?_
  refine n_newaI 6 dX7_init_66 rfl (by decide) (Nat.le_of_ble_eq_true rfl) (Nat.le_of_ble_eq_true rfl) zn_arrI (fun q6 => ?_)
  refine n_ws (ws' := [(h0, .inr (9, [.int (zI 0), .ref q0, .ref q1, .int (zI 0), .ref q2, .int (zI 13), .int (zI 0), .ref q3, .ref q4, .ref q5, .int (zI 0), .null, .null, .null, .null, .null, .null, .null, .int (zI 0), .int (zI 0), .null, .int (zI 0), .null, .null, .int (zI 0), .null, .int (zI 0), .int (zI 0), .null, .int (zI 0)])), (q0, .inl (G.2.2.2.1, 256, .inl (fun _ => zI 0))), (q1, .inl (G.2.2.2.1, 5120, .inl (fun _ => zI 0))), (q2, .inl (G.2.2.2.2.1, 256, .inl (fun _ => zI 0))), (q3, .inl (G.2.2.2.1, 8, .inl (fun _ => zI 0))), (q4, .inl (G.2.2.2.1, 240, .inl (fun _ => zI 0))), (q5, .inl (G.2.2.2.1, 28800, .inl (fun _ => zI 0))), (q6, .inl (G.2.2.2.1, 6, .inl (fun _ => zI 0)))]) rfl ?_
  refine n_putF 0 dX7_init_68 zq_X7_33 rfl (Nat.le_of_ble_eq_true rfl) rfl rfl ?_
  refine n_ws (ws' := [(h0, .inr (9, [.int (zI 0), .ref q0, .ref q1, .int (zI 0), .ref q2, .int (zI 13), .int (zI 0), .ref q3, .ref q4, .ref q5, .int (zI 0), .ref q6, .null, .null, .null, .null, .null, .null, .int (zI 0), .int (zI 0), .null, .int (zI 0), .null, .null, .int (zI 0), .null, .int (zI 0), .int (zI 0), .null, .int (zI 0)])), (q0, .inl (G.2.2.2.1, 256, .inl (fun _ => zI 0))), (q1, .inl (G.2.2.2.1, 5120, .inl (fun _ => zI 0))), (q2, .inl (G.2.2.2.2.1, 256, .inl (fun _ => zI 0))), (q3, .inl (G.2.2.2.1, 8, .inl (fun _ => zI 0))), (q4, .inl (G.2.2.2.1, 240, .inl (fun _ => zI 0))), (q5, .inl (G.2.2.2.1, 28800, .inl (fun _ => zI 0))), (q6, .inl (G.2.2.2.1, 6, .inl (fun _ => zI 0)))]) rfl ?_
  refine n_aload (i := 0) dX7_init_71 rfl rfl ?_
  refine n_bipush 6 dX7_init_72 (by decide +kernel) ?_
  refine n_newaI 6 dX7_init_74 rfl (by decide) (Nat.le_of_ble_eq_true rfl) (Nat.le_of_ble_eq_true rfl) zn_arrI (fun q7 => ?_)
  refine n_ws (ws' := [(h0, .inr (9, [.int (zI 0), .ref q0, .ref q1, .int (zI 0), .ref q2, .int (zI 13), .int (zI 0), .ref q3, .ref q4, .ref q5, .int (zI 0), .ref q6, .null, .null, .null, .null, .null, .null, .int (zI 0), .int (zI 0), .null, .int (zI 0), .null, .null, .int (zI 0), .null, .int (zI 0), .int (zI 0), .null, .int (zI 0)])), (q0, .inl (G.2.2.2.1, 256, .inl (fun _ => zI 0))), (q1, .inl (G.2.2.2.1, 5120, .inl (fun _ => zI 0))), (q2, .inl (G.2.2.2.2.1, 256, .inl (fun _ => zI 0))), (q3, .inl (G.2.2.2.1, 8, .inl (fun _ => zI 0))), (q4, .inl (G.2.2.2.1, 240, .inl (fun _ => zI 0))), (q5, .inl (G.2.2.2.1, 28800, .inl (fun _ => zI 0))), (q6, .inl (G.2.2.2.1, 6, .inl (fun _ => zI 0))), (q7, .inl (G.2.2.2.1, 6, .inl (fun _ => zI 0)))]) rfl ?_
  refine n_putF 0 dX7_init_76 zq_X7_36 rfl (Nat.le_of_ble_eq_true rfl) rfl rfl ?_
  refine n_ws (ws' := [(h0, .inr (9, [.int (zI 0), .ref q0, .ref q1, .int (zI 0), .ref q2, .int (zI 13), .int (zI 0), .ref q3, .ref q4, .ref q5, .int (zI 0), .ref q6, .ref q7, .null, .null, .null, .null, .null, .int (zI 0), .int (zI 0), .null, .int (zI 0), .null, .null, .int (zI 0), .null, .int (zI 0), .int (zI 0), .null, .int (zI 0)])), (q0, .inl (G.2.2.2.1, 256, .inl (fun _ => zI 0))), (q1, .inl (G.2.2.2.1, 5120, .inl (fun _ => zI 0))), (q2, .inl (G.2.2.2.2.1, 256, .inl (fun _ => zI 0))), (q3, .inl (G.2.2.2.1, 8, .inl (fun _ => zI 0))), (q4, .inl (G.2.2.2.1, 240, .inl (fun _ => zI 0))), (q5, .inl (G.2.2.2.1, 28800, .inl (fun _ => zI 0))), (q6, .inl (G.2.2.2.1, 6, .inl (fun _ => zI 0))), (q7, .inl (G.2.2.2.1, 6, .inl (fun _ => zI 0)))]) rfl ?_
  refine n_aload (i := 0) dX7_init_79 rfl rfl ?_
  refine n_sipush 768 dX7_init_80 (by decide +kernel) ?_
  refine n_newaI 768 dX7_init_83 rfl (by decide) (Nat.le_of_ble_eq_true rfl) (Nat.le_of_ble_eq_true rfl) zn_arrI (fun q8 => ?_)
  refine n_ws (ws' := [(h0, .inr (9, [.int (zI 0), .ref q0, .ref q1, .int (zI 0), .ref q2, .int (zI 13), .int (zI 0), .ref q3, .ref q4, .ref q5, .int (zI 0), .ref q6, .ref q7, .null, .null, .null, .null, .null, .int (zI 0), .int (zI 0), .null, .int (zI 0), .null, .null, .int (zI 0), .null, .int (zI 0), .int (zI 0), .null, .int (zI 0)])), (q0, .inl (G.2.2.2.1, 256, .inl (fun _ => zI 0))), (q1, .inl (G.2.2.2.1, 5120, .inl (fun _ => zI 0))), (q2, .inl (G.2.2.2.2.1, 256, .inl (fun _ => zI 0))), (q3, .inl (G.2.2.2.1, 8, .inl (fun _ => zI 0))), (q4, .inl (G.2.2.2.1, 240, .inl (fun _ => zI 0))), (q5, .inl (G.2.2.2.1, 28800, .inl (fun _ => zI 0))), (q6, .inl (G.2.2.2.1, 6, .inl (fun _ => zI 0))), (q7, .inl (G.2.2.2.1, 6, .inl (fun _ => zI 0))), (q8, .inl (G.2.2.2.1, 768, .inl (fun _ => zI 0)))]) rfl ?_
  refine n_putF 0 dX7_init_85 zq_X7_39 rfl (Nat.le_of_ble_eq_true rfl) rfl rfl ?_
  refine n_ws (ws' := [(h0, .inr (9, [.int (zI 0), .ref q0, .ref q1, .int (zI 0), .ref q2, .int (zI 13), .int (zI 0), .ref q3, .ref q4, .ref q5, .int (zI 0), .ref q6, .ref q7, .ref q8, .null, .null, .null, .null, .int (zI 0), .int (zI 0), .null, .int (zI 0), .null, .null, .int (zI 0), .null, .int (zI 0), .int (zI 0), .null, .int (zI 0)])), (q0, .inl (G.2.2.2.1, 256, .inl (fun _ => zI 0))), (q1, .inl (G.2.2.2.1, 5120, .inl (fun _ => zI 0))), (q2, .inl (G.2.2.2.2.1, 256, .inl (fun _ => zI 0))), (q3, .inl (G.2.2.2.1, 8, .inl (fun _ => zI 0))), (q4, .inl (G.2.2.2.1, 240, .inl (fun _ => zI 0))), (q5, .inl (G.2.2.2.1, 28800, .inl (fun _ => zI 0))), (q6, .inl (G.2.2.2.1, 6, .inl (fun _ => zI 0))), (q7, .inl (G.2.2.2.1, 6, .inl (fun _ => zI 0))), (q8, .inl (G.2.2.2.1, 768, .inl (fun _ => zI 0)))]) rfl ?_
  refine n_aload (i := 0) dX7_init_88 rfl rfl ?_
  refine n_bipush 6 dX7_init_89 (by decide +kernel) ?_
  refine n_newaI 6 dX7_init_91 rfl (by decide) (Nat.le_of_ble_eq_true rfl) (Nat.le_of_ble_eq_true rfl) zn_arrI (fun q9 => ?_)
  refine n_ws (ws' := [(h0, .inr (9, [.int (zI 0), .ref q0, .ref q1, .int (zI 0), .ref q2, .int (zI 13), .int (zI 0), .ref q3, .ref q4, .ref q5, .int (zI 0), .ref q6, .ref q7, .ref q8, .null, .null, .null, .null, .int (zI 0), .int (zI 0), .null, .int (zI 0), .null, .null, .int (zI 0), .null, .int (zI 0), .int (zI 0), .null, .int (zI 0)])), (q0, .inl (G.2.2.2.1, 256, .inl (fun _ => zI 0))), (q1, .inl (G.2.2.2.1, 5120, .inl (fun _ => zI 0))), (q2, .inl (G.2.2.2.2.1, 256, .inl (fun _ => zI 0))), (q3, .inl (G.2.2.2.1, 8, .inl (fun _ => zI 0))), (q4, .inl (G.2.2.2.1, 240, .inl (fun _ => zI 0))), (q5, .inl (G.2.2.2.1, 28800, .inl (fun _ => zI 0))), (q6, .inl (G.2.2.2.1, 6, .inl (fun _ => zI 0))), (q7, .inl (G.2.2.2.1, 6, .inl (fun _ => zI 0))), (q8, .inl (G.2.2.2.1, 768, .inl (fun _ => zI 0))), (q9, .inl (G.2.2.2.1, 6, .inl (fun _ => zI 0)))]) rfl ?_
  refine n_putF 0 dX7_init_93 zq_X7_42 rfl (Nat.le_of_ble_eq_true rfl) rfl rfl ?_
  refine n_ws (ws' := [(h0, .inr (9, [.int (zI 0), .ref q0, .ref q1, .int (zI 0), .ref q2, .int (zI 13), .int (zI 0), .ref q3, .ref q4, .ref q5, .int (zI 0), .ref q6, .ref q7, .ref q8, .ref q9, .null, .null, .null, .int (zI 0), .int (zI 0), .null, .int (zI 0), .null, .null, .int (zI 0), .null, .int (zI 0), .int (zI 0), .null, .int (zI 0)])), (q0, .inl (G.2.2.2.1, 256, .inl (fun _ => zI 0))), (q1, .inl (G.2.2.2.1, 5120, .inl (fun _ => zI 0))), (q2, .inl (G.2.2.2.2.1, 256, .inl (fun _ => zI 0))), (q3, .inl (G.2.2.2.1, 8, .inl (fun _ => zI 0))), (q4, .inl (G.2.2.2.1, 240, .inl (fun _ => zI 0))), (q5, .inl (G.2.2.2.1, 28800, .inl (fun _ => zI 0))), (q6, .inl (G.2.2.2.1, 6, .inl (fun _ => zI 0))), (q7, .inl (G.2.2.2.1, 6, .inl (fun _ => zI 0))), (q8, .inl (G.2.2.2.1, 768, .inl (fun _ => zI 0))), (q9, .inl (G.2.2.2.1, 6, .inl (fun _ => zI 0)))]) rfl ?_
  refine n_aload (i := 0) dX7_init_96 rfl rfl ?_
  refine n_bipush 6 dX7_init_97 (by decide +kernel) ?_
  refine n_newaI 6 dX7_init_99 rfl (by decide) (Nat.le_of_ble_eq_true rfl) (Nat.le_of_ble_eq_true rfl) zn_arrI (fun q10 => ?_)
  refine n_ws (ws' := [(h0, .inr (9, [.int (zI 0), .ref q0, .ref q1, .int (zI 0), .ref q2, .int (zI 13), .int (zI 0), .ref q3, .ref q4, .ref q5, .int (zI 0), .ref q6, .ref q7, .ref q8, .ref q9, .null, .null, .null, .int (zI 0), .int (zI 0), .null, .int (zI 0), .null, .null, .int (zI 0), .null, .int (zI 0), .int (zI 0), .null, .int (zI 0)])), (q0, .inl (G.2.2.2.1, 256, .inl (fun _ => zI 0))), (q1, .inl (G.2.2.2.1, 5120, .inl (fun _ => zI 0))), (q2, .inl (G.2.2.2.2.1, 256, .inl (fun _ => zI 0))), (q3, .inl (G.2.2.2.1, 8, .inl (fun _ => zI 0))), (q4, .inl (G.2.2.2.1, 240, .inl (fun _ => zI 0))), (q5, .inl (G.2.2.2.1, 28800, .inl (fun _ => zI 0))), (q6, .inl (G.2.2.2.1, 6, .inl (fun _ => zI 0))), (q7, .inl (G.2.2.2.1, 6, .inl (fun _ => zI 0))), (q8, .inl (G.2.2.2.1, 768, .inl (fun _ => zI 0))), (q9, .inl (G.2.2.2.1, 6, .inl (fun _ => zI 0))), (q10, .inl (G.2.2.2.1, 6, .inl (fun _ => zI 0)))]) rfl ?_
  refine n_putF 0 dX7_init_101 zq_X7_45 rfl (Nat.le_of_ble_eq_true rfl) rfl rfl ?_
  refine n_ws (ws' := [(h0, .inr (9, [.int (zI 0), .ref q0, .ref q1, .int (zI 0), .ref q2, .int (zI 13), .int (zI 0), .ref q3, .ref q4, .ref q5, .int (zI 0), .ref q6, .ref q7, .ref q8, .ref q9, .ref q10, .null, .null, .int (zI 0), .int (zI 0), .null, .int (zI 0), .null, .null, .int (zI 0), .null, .int (zI 0), .int (zI 0), .null, .int (zI 0)])), (q0, .inl (G.2.2.2.1, 256, .inl (fun _ => zI 0))), (q1, .inl (G.2.2.2.1, 5120, .inl (fun _ => zI 0))), (q2, .inl (G.2.2.2.2.1, 256, .inl (fun _ => zI 0))), (q3, .inl (G.2.2.2.1, 8, .inl (fun _ => zI 0))), (q4, .inl (G.2.2.2.1, 240, .inl (fun _ => zI 0))), (q5, .inl (G.2.2.2.1, 28800, .inl (fun _ => zI 0))), (q6, .inl (G.2.2.2.1, 6, .inl (fun _ => zI 0))), (q7, .inl (G.2.2.2.1, 6, .inl (fun _ => zI 0))), (q8, .inl (G.2.2.2.1, 768, .inl (fun _ => zI 0))), (q9, .inl (G.2.2.2.1, 6, .inl (fun _ => zI 0))), (q10, .inl (G.2.2.2.1, 6, .inl (fun _ => zI 0)))]) rfl ?_
  refine n_aload (i := 0) dX7_init_104 rfl rfl ?_
  refine n_bipush 6 dX7_init_105 (by decide +kernel) ?_
  refine n_newaI 6 dX7_init_107 rfl (by decide) (Nat.le_of_ble_eq_true rfl) (Nat.le_of_ble_eq_true rfl) zn_arrI (fun q11 => ?_)
  refine n_ws (ws' := [(h0, .inr (9, [.int (zI 0), .ref q0, .ref q1, .int (zI 0), .ref q2, .int (zI 13), .int (zI 0), .ref q3, .ref q4, .ref q5, .int (zI 0), .ref q6, .ref q7, .ref q8, .ref q9, .ref q10, .null, .null, .int (zI 0), .int (zI 0), .null, .int (zI 0), .null, .null, .int (zI 0), .null, .int (zI 0), .int (zI 0), .null, .int (zI 0)])), (q0, .inl (G.2.2.2.1, 256, .inl (fun _ => zI 0))), (q1, .inl (G.2.2.2.1, 5120, .inl (fun _ => zI 0))), (q2, .inl (G.2.2.2.2.1, 256, .inl (fun _ => zI 0))), (q3, .inl (G.2.2.2.1, 8, .inl (fun _ => zI 0))), (q4, .inl (G.2.2.2.1, 240, .inl (fun _ => zI 0))), (q5, .inl (G.2.2.2.1, 28800, .inl (fun _ => zI 0))), (q6, .inl (G.2.2.2.1, 6, .inl (fun _ => zI 0))), (q7, .inl (G.2.2.2.1, 6, .inl (fun _ => zI 0))), (q8, .inl (G.2.2.2.1, 768, .inl (fun _ => zI 0))), (q9, .inl (G.2.2.2.1, 6, .inl (fun _ => zI 0))), (q10, .inl (G.2.2.2.1, 6, .inl (fun _ => zI 0))), (q11, .inl (G.2.2.2.1, 6, .inl (fun _ => zI 0)))]) rfl ?_
  refine n_putF 0 dX7_init_109 zq_X7_48 rfl (Nat.le_of_ble_eq_true rfl) rfl rfl ?_
  refine n_ws (ws' := [(h0, .inr (9, [.int (zI 0), .ref q0, .ref q1, .int (zI 0), .ref q2, .int (zI 13), .int (zI 0), .ref q3, .ref q4, .ref q5, .int (zI 0), .ref q6, .ref q7, .ref q8, .ref q9, .ref q10, .ref q11, .null, .int (zI 0), .int (zI 0), .null, .int (zI 0), .null, .null, .int (zI 0), .null, .int (zI 0), .int (zI 0), .null, .int (zI 0)])), (q0, .inl (G.2.2.2.1, 256, .inl (fun _ => zI 0))), (q1, .inl (G.2.2.2.1, 5120, .inl (fun _ => zI 0))), (q2, .inl (G.2.2.2.2.1, 256, .inl (fun _ => zI 0))), (q3, .inl (G.2.2.2.1, 8, .inl (fun _ => zI 0))), (q4, .inl (G.2.2.2.1, 240, .inl (fun _ => zI 0))), (q5, .inl (G.2.2.2.1, 28800, .inl (fun _ => zI 0))), (q6, .inl (G.2.2.2.1, 6, .inl (fun _ => zI 0))), (q7, .inl (G.2.2.2.1, 6, .inl (fun _ => zI 0))), (q8, .inl (G.2.2.2.1, 768, .inl (fun _ => zI 0))), (q9, .inl (G.2.2.2.1, 6, .inl (fun _ => zI 0))), (q10, .inl (G.2.2.2.1, 6, .inl (fun _ => zI 0))), (q11, .inl (G.2.2.2.1, 6, .inl (fun _ => zI 0)))]) rfl ?_
  refine n_aload (i := 0) dX7_init_112 rfl rfl ?_
  refine n_bipush 6 dX7_init_113 (by decide +kernel) ?_
  refine n_newaZ 6 dX7_init_115 rfl (by decide) (Nat.le_of_ble_eq_true rfl) (Nat.le_of_ble_eq_true rfl) zn_arrZ (fun q12 => ?_)
  refine n_ws (ws' := [(h0, .inr (9, [.int (zI 0), .ref q0, .ref q1, .int (zI 0), .ref q2, .int (zI 13), .int (zI 0), .ref q3, .ref q4, .ref q5, .int (zI 0), .ref q6, .ref q7, .ref q8, .ref q9, .ref q10, .ref q11, .null, .int (zI 0), .int (zI 0), .null, .int (zI 0), .null, .null, .int (zI 0), .null, .int (zI 0), .int (zI 0), .null, .int (zI 0)])), (q0, .inl (G.2.2.2.1, 256, .inl (fun _ => zI 0))), (q1, .inl (G.2.2.2.1, 5120, .inl (fun _ => zI 0))), (q2, .inl (G.2.2.2.2.1, 256, .inl (fun _ => zI 0))), (q3, .inl (G.2.2.2.1, 8, .inl (fun _ => zI 0))), (q4, .inl (G.2.2.2.1, 240, .inl (fun _ => zI 0))), (q5, .inl (G.2.2.2.1, 28800, .inl (fun _ => zI 0))), (q6, .inl (G.2.2.2.1, 6, .inl (fun _ => zI 0))), (q7, .inl (G.2.2.2.1, 6, .inl (fun _ => zI 0))), (q8, .inl (G.2.2.2.1, 768, .inl (fun _ => zI 0))), (q9, .inl (G.2.2.2.1, 6, .inl (fun _ => zI 0))), (q10, .inl (G.2.2.2.1, 6, .inl (fun _ => zI 0))), (q11, .inl (G.2.2.2.1, 6, .inl (fun _ => zI 0))), (q12, .inl (G.2.2.2.2.1, 6, .inl (fun _ => zI 0)))]) rfl ?_
  refine n_putF 0 dX7_init_117 zq_X7_51 rfl (Nat.le_of_ble_eq_true rfl) rfl rfl ?_
  refine n_ws (ws' := [(h0, .inr (9, [.int (zI 0), .ref q0, .ref q1, .int (zI 0), .ref q2, .int (zI 13), .int (zI 0), .ref q3, .ref q4, .ref q5, .int (zI 0), .ref q6, .ref q7, .ref q8, .ref q9, .ref q10, .ref q11, .ref q12, .int (zI 0), .int (zI 0), .null, .int (zI 0), .null, .null, .int (zI 0), .null, .int (zI 0), .int (zI 0), .null, .int (zI 0)])), (q0, .inl (G.2.2.2.1, 256, .inl (fun _ => zI 0))), (q1, .inl (G.2.2.2.1, 5120, .inl (fun _ => zI 0))), (q2, .inl (G.2.2.2.2.1, 256, .inl (fun _ => zI 0))), (q3, .inl (G.2.2.2.1, 8, .inl (fun _ => zI 0))), (q4, .inl (G.2.2.2.1, 240, .inl (fun _ => zI 0))), (q5, .inl (G.2.2.2.1, 28800, .inl (fun _ => zI 0))), (q6, .inl (G.2.2.2.1, 6, .inl (fun _ => zI 0))), (q7, .inl (G.2.2.2.1, 6, .inl (fun _ => zI 0))), (q8, .inl (G.2.2.2.1, 768, .inl (fun _ => zI 0))), (q9, .inl (G.2.2.2.1, 6, .inl (fun _ => zI 0))), (q10, .inl (G.2.2.2.1, 6, .inl (fun _ => zI 0))), (q11, .inl (G.2.2.2.1, 6, .inl (fun _ => zI 0))), (q12, .inl (G.2.2.2.2.1, 6, .inl (fun _ => zI 0)))]) rfl ?_
  refine n_aload (i := 0) dX7_init_120 rfl rfl ?_
  refine n_sipush 3600 dX7_init_121 (by decide +kernel) ?_
  refine n_newaI 3600 dX7_init_124 rfl (by decide) (Nat.le_of_ble_eq_true rfl) (Nat.le_of_ble_eq_true rfl) zn_arrI (fun q13 => ?_)
  refine n_ws (ws' := [(h0, .inr (9, [.int (zI 0), .ref q0, .ref q1, .int (zI 0), .ref q2, .int (zI 13), .int (zI 0), .ref q3, .ref q4, .ref q5, .int (zI 0), .ref q6, .ref q7, .ref q8, .ref q9, .ref q10, .ref q11, .ref q12, .int (zI 0), .int (zI 0), .null, .int (zI 0), .null, .null, .int (zI 0), .null, .int (zI 0), .int (zI 0), .null, .int (zI 0)])), (q0, .inl (G.2.2.2.1, 256, .inl (fun _ => zI 0))), (q1, .inl (G.2.2.2.1, 5120, .inl (fun _ => zI 0))), (q2, .inl (G.2.2.2.2.1, 256, .inl (fun _ => zI 0))), (q3, .inl (G.2.2.2.1, 8, .inl (fun _ => zI 0))), (q4, .inl (G.2.2.2.1, 240, .inl (fun _ => zI 0))), (q5, .inl (G.2.2.2.1, 28800, .inl (fun _ => zI 0))), (q6, .inl (G.2.2.2.1, 6, .inl (fun _ => zI 0))), (q7, .inl (G.2.2.2.1, 6, .inl (fun _ => zI 0))), (q8, .inl (G.2.2.2.1, 768, .inl (fun _ => zI 0))), (q9, .inl (G.2.2.2.1, 6, .inl (fun _ => zI 0))), (q10, .inl (G.2.2.2.1, 6, .inl (fun _ => zI 0))), (q11, .inl (G.2.2.2.1, 6, .inl (fun _ => zI 0))), (q12, .inl (G.2.2.2.2.1, 6, .inl (fun _ => zI 0))), (q13, .inl (G.2.2.2.1, 3600, .inl (fun _ => zI 0)))]) rfl ?_
  refine n_putF 0 dX7_init_126 zq_X7_54 rfl (Nat.le_of_ble_eq_true rfl) rfl rfl ?_
  refine n_ws (ws' := [(h0, .inr (9, [.int (zI 0), .ref q0, .ref q1, .int (zI 0), .ref q2, .int (zI 13), .int (zI 0), .ref q3, .ref q4, .ref q5, .int (zI 0), .ref q6, .ref q7, .ref q8, .ref q9, .ref q10, .ref q11, .ref q12, .int (zI 0), .int (zI 0), .ref q13, .int (zI 0), .null, .null, .int (zI 0), .null, .int (zI 0), .int (zI 0), .null, .int (zI 0)])), (q0, .inl (G.2.2.2.1, 256, .inl (fun _ => zI 0))), (q1, .inl (G.2.2.2.1, 5120, .inl (fun _ => zI 0))), (q2, .inl (G.2.2.2.2.1, 256, .inl (fun _ => zI 0))), (q3, .inl (G.2.2.2.1, 8, .inl (fun _ => zI 0))), (q4, .inl (G.2.2.2.1, 240, .inl (fun _ => zI 0))), (q5, .inl (G.2.2.2.1, 28800, .inl (fun _ => zI 0))), (q6, .inl (G.2.2.2.1, 6, .inl (fun _ => zI 0))), (q7, .inl (G.2.2.2.1, 6, .inl (fun _ => zI 0))), (q8, .inl (G.2.2.2.1, 768, .inl (fun _ => zI 0))), (q9, .inl (G.2.2.2.1, 6, .inl (fun _ => zI 0))), (q10, .inl (G.2.2.2.1, 6, .inl (fun _ => zI 0))), (q11, .inl (G.2.2.2.1, 6, .inl (fun _ => zI 0))), (q12, .inl (G.2.2.2.2.1, 6, .inl (fun _ => zI 0))), (q13, .inl (G.2.2.2.1, 3600, .inl (fun _ => zI 0)))]) rfl ?_
  refine n_aload (i := 0) dX7_init_129 rfl rfl ?_
  refine n_sipush 6000 dX7_init_130 (by decide +kernel) ?_
  refine n_newaI 6000 dX7_init_133 rfl (by decide) (Nat.le_of_ble_eq_true rfl) (Nat.le_of_ble_eq_true rfl) zn_arrI (fun q14 => ?_)
  refine n_ws (ws' := [(h0, .inr (9, [.int (zI 0), .ref q0, .ref q1, .int (zI 0), .ref q2, .int (zI 13), .int (zI 0), .ref q3, .ref q4, .ref q5, .int (zI 0), .ref q6, .ref q7, .ref q8, .ref q9, .ref q10, .ref q11, .ref q12, .int (zI 0), .int (zI 0), .ref q13, .int (zI 0), .null, .null, .int (zI 0), .null, .int (zI 0), .int (zI 0), .null, .int (zI 0)])), (q0, .inl (G.2.2.2.1, 256, .inl (fun _ => zI 0))), (q1, .inl (G.2.2.2.1, 5120, .inl (fun _ => zI 0))), (q2, .inl (G.2.2.2.2.1, 256, .inl (fun _ => zI 0))), (q3, .inl (G.2.2.2.1, 8, .inl (fun _ => zI 0))), (q4, .inl (G.2.2.2.1, 240, .inl (fun _ => zI 0))), (q5, .inl (G.2.2.2.1, 28800, .inl (fun _ => zI 0))), (q6, .inl (G.2.2.2.1, 6, .inl (fun _ => zI 0))), (q7, .inl (G.2.2.2.1, 6, .inl (fun _ => zI 0))), (q8, .inl (G.2.2.2.1, 768, .inl (fun _ => zI 0))), (q9, .inl (G.2.2.2.1, 6, .inl (fun _ => zI 0))), (q10, .inl (G.2.2.2.1, 6, .inl (fun _ => zI 0))), (q11, .inl (G.2.2.2.1, 6, .inl (fun _ => zI 0))), (q12, .inl (G.2.2.2.2.1, 6, .inl (fun _ => zI 0))), (q13, .inl (G.2.2.2.1, 3600, .inl (fun _ => zI 0))), (q14, .inl (G.2.2.2.1, 6000, .inl (fun _ => zI 0)))]) rfl ?_
  refine n_putF 0 dX7_init_135 zq_X7_57 rfl (Nat.le_of_ble_eq_true rfl) rfl rfl ?_
  refine n_ws (ws' := [(h0, .inr (9, [.int (zI 0), .ref q0, .ref q1, .int (zI 0), .ref q2, .int (zI 13), .int (zI 0), .ref q3, .ref q4, .ref q5, .int (zI 0), .ref q6, .ref q7, .ref q8, .ref q9, .ref q10, .ref q11, .ref q12, .int (zI 0), .int (zI 0), .ref q13, .int (zI 0), .ref q14, .null, .int (zI 0), .null, .int (zI 0), .int (zI 0), .null, .int (zI 0)])), (q0, .inl (G.2.2.2.1, 256, .inl (fun _ => zI 0))), (q1, .inl (G.2.2.2.1, 5120, .inl (fun _ => zI 0))), (q2, .inl (G.2.2.2.2.1, 256, .inl (fun _ => zI 0))), (q3, .inl (G.2.2.2.1, 8, .inl (fun _ => zI 0))), (q4, .inl (G.2.2.2.1, 240, .inl (fun _ => zI 0))), (q5, .inl (G.2.2.2.1, 28800, .inl (fun _ => zI 0))), (q6, .inl (G.2.2.2.1, 6, .inl (fun _ => zI 0))), (q7, .inl (G.2.2.2.1, 6, .inl (fun _ => zI 0))), (q8, .inl (G.2.2.2.1, 768, .inl (fun _ => zI 0))), (q9, .inl (G.2.2.2.1, 6, .inl (fun _ => zI 0))), (q10, .inl (G.2.2.2.1, 6, .inl (fun _ => zI 0))), (q11, .inl (G.2.2.2.1, 6, .inl (fun _ => zI 0))), (q12, .inl (G.2.2.2.2.1, 6, .inl (fun _ => zI 0))), (q13, .inl (G.2.2.2.1, 3600, .inl (fun _ => zI 0))), (q14, .inl (G.2.2.2.1, 6000, .inl (fun _ => zI 0)))]) rfl ?_
  refine n_aload (i := 0) dX7_init_138 rfl rfl ?_
  refine n_sipush 150 dX7_init_139 (by decide +kernel) ?_
  refine n_newaI 150 dX7_init_142 rfl (by decide) (Nat.le_of_ble_eq_true rfl) (Nat.le_of_ble_eq_true rfl) zn_arrI (fun q15 => ?_)
  refine n_ws (ws' := [(h0, .inr (9, [.int (zI 0), .ref q0, .ref q1, .int (zI 0), .ref q2, .int (zI 13), .int (zI 0), .ref q3, .ref q4, .ref q5, .int (zI 0), .ref q6, .ref q7, .ref q8, .ref q9, .ref q10, .ref q11, .ref q12, .int (zI 0), .int (zI 0), .ref q13, .int (zI 0), .ref q14, .null, .int (zI 0), .null, .int (zI 0), .int (zI 0), .null, .int (zI 0)])), (q0, .inl (G.2.2.2.1, 256, .inl (fun _ => zI 0))), (q1, .inl (G.2.2.2.1, 5120, .inl (fun _ => zI 0))), (q2, .inl (G.2.2.2.2.1, 256, .inl (fun _ => zI 0))), (q3, .inl (G.2.2.2.1, 8, .inl (fun _ => zI 0))), (q4, .inl (G.2.2.2.1, 240, .inl (fun _ => zI 0))), (q5, .inl (G.2.2.2.1, 28800, .inl (fun _ => zI 0))), (q6, .inl (G.2.2.2.1, 6, .inl (fun _ => zI 0))), (q7, .inl (G.2.2.2.1, 6, .inl (fun _ => zI 0))), (q8, .inl (G.2.2.2.1, 768, .inl (fun _ => zI 0))), (q9, .inl (G.2.2.2.1, 6, .inl (fun _ => zI 0))), (q10, .inl (G.2.2.2.1, 6, .inl (fun _ => zI 0))), (q11, .inl (G.2.2.2.1, 6, .inl (fun _ => zI 0))), (q12, .inl (G.2.2.2.2.1, 6, .inl (fun _ => zI 0))), (q13, .inl (G.2.2.2.1, 3600, .inl (fun _ => zI 0))), (q14, .inl (G.2.2.2.1, 6000, .inl (fun _ => zI 0))), (q15, .inl (G.2.2.2.1, 150, .inl (fun _ => zI 0)))]) rfl ?_
  refine n_putF 0 dX7_init_144 zq_X7_60 rfl (Nat.le_of_ble_eq_true rfl) rfl rfl ?_
  refine n_ws (ws' := [(h0, .inr (9, [.int (zI 0), .ref q0, .ref q1, .int (zI 0), .ref q2, .int (zI 13), .int (zI 0), .ref q3, .ref q4, .ref q5, .int (zI 0), .ref q6, .ref q7, .ref q8, .ref q9, .ref q10, .ref q11, .ref q12, .int (zI 0), .int (zI 0), .ref q13, .int (zI 0), .ref q14, .ref q15, .int (zI 0), .null, .int (zI 0), .int (zI 0), .null, .int (zI 0)])), (q0, .inl (G.2.2.2.1, 256, .inl (fun _ => zI 0))), (q1, .inl (G.2.2.2.1, 5120, .inl (fun _ => zI 0))), (q2, .inl (G.2.2.2.2.1, 256, .inl (fun _ => zI 0))), (q3, .inl (G.2.2.2.1, 8, .inl (fun _ => zI 0))), (q4, .inl (G.2.2.2.1, 240, .inl (fun _ => zI 0))), (q5, .inl (G.2.2.2.1, 28800, .inl (fun _ => zI 0))), (q6, .inl (G.2.2.2.1, 6, .inl (fun _ => zI 0))), (q7, .inl (G.2.2.2.1, 6, .inl (fun _ => zI 0))), (q8, .inl (G.2.2.2.1, 768, .inl (fun _ => zI 0))), (q9, .inl (G.2.2.2.1, 6, .inl (fun _ => zI 0))), (q10, .inl (G.2.2.2.1, 6, .inl (fun _ => zI 0))), (q11, .inl (G.2.2.2.1, 6, .inl (fun _ => zI 0))), (q12, .inl (G.2.2.2.2.1, 6, .inl (fun _ => zI 0))), (q13, .inl (G.2.2.2.1, 3600, .inl (fun _ => zI 0))), (q14, .inl (G.2.2.2.1, 6000, .inl (fun _ => zI 0))), (q15, .inl (G.2.2.2.1, 150, .inl (fun _ => zI 0)))]) rfl ?_
  refine n_aload (i := 0) dX7_init_147 rfl rfl ?_
  refine n_sipush 300 dX7_init_148 (by decide +kernel) ?_
  refine n_newaI 300 dX7_init_151 rfl (by decide) (Nat.le_of_ble_eq_true rfl) (Nat.le_of_ble_eq_true rfl) zn_arrI (fun q16 => ?_)
  refine n_ws (ws' := [(h0, .inr (9, [.int (zI 0), .ref q0, .ref q1, .int (zI 0), .ref q2, .int (zI 13), .int (zI 0), .ref q3, .ref q4, .ref q5, .int (zI 0), .ref q6, .ref q7, .ref q8, .ref q9, .ref q10, .ref q11, .ref q12, .int (zI 0), .int (zI 0), .ref q13, .int (zI 0), .ref q14, .ref q15, .int (zI 0), .null, .int (zI 0), .int (zI 0), .null, .int (zI 0)])), (q0, .inl (G.2.2.2.1, 256, .inl (fun _ => zI 0))), (q1, .inl (G.2.2.2.1, 5120, .inl (fun _ => zI 0))), (q2, .inl (G.2.2.2.2.1, 256, .inl (fun _ => zI 0))), (q3, .inl (G.2.2.2.1, 8, .inl (fun _ => zI 0))), (q4, .inl (G.2.2.2.1, 240, .inl (fun _ => zI 0))), (q5, .inl (G.2.2.2.1, 28800, .inl (fun _ => zI 0))), (q6, .inl (G.2.2.2.1, 6, .inl (fun _ => zI 0))), (q7, .inl (G.2.2.2.1, 6, .inl (fun _ => zI 0))), (q8, .inl (G.2.2.2.1, 768, .inl (fun _ => zI 0))), (q9, .inl (G.2.2.2.1, 6, .inl (fun _ => zI 0))), (q10, .inl (G.2.2.2.1, 6, .inl (fun _ => zI 0))), (q11, .inl (G.2.2.2.1, 6, .inl (fun _ => zI 0))), (q12, .inl (G.2.2.2.2.1, 6, .inl (fun _ => zI 0))), (q13, .inl (G.2.2.2.1, 3600, .inl (fun _ => zI 0))), (q14, .inl (G.2.2.2.1, 6000, .inl (fun _ => zI 0))), (q15, .inl (G.2.2.2.1, 150, .inl (fun _ => zI 0))), (q16, .inl (G.2.2.2.1, 300, .inl (fun _ => zI 0)))]) rfl ?_
  refine n_putF 0 dX7_init_153 zq_X7_63 rfl (Nat.le_of_ble_eq_true rfl) rfl rfl ?_
  refine n_ws (ws' := [(h0, .inr (9, [.int (zI 0), .ref q0, .ref q1, .int (zI 0), .ref q2, .int (zI 13), .int (zI 0), .ref q3, .ref q4, .ref q5, .int (zI 0), .ref q6, .ref q7, .ref q8, .ref q9, .ref q10, .ref q11, .ref q12, .int (zI 0), .int (zI 0), .ref q13, .int (zI 0), .ref q14, .ref q15, .int (zI 0), .ref q16, .int (zI 0), .int (zI 0), .null, .int (zI 0)])), (q0, .inl (G.2.2.2.1, 256, .inl (fun _ => zI 0))), (q1, .inl (G.2.2.2.1, 5120, .inl (fun _ => zI 0))), (q2, .inl (G.2.2.2.2.1, 256, .inl (fun _ => zI 0))), (q3, .inl (G.2.2.2.1, 8, .inl (fun _ => zI 0))), (q4, .inl (G.2.2.2.1, 240, .inl (fun _ => zI 0))), (q5, .inl (G.2.2.2.1, 28800, .inl (fun _ => zI 0))), (q6, .inl (G.2.2.2.1, 6, .inl (fun _ => zI 0))), (q7, .inl (G.2.2.2.1, 6, .inl (fun _ => zI 0))), (q8, .inl (G.2.2.2.1, 768, .inl (fun _ => zI 0))), (q9, .inl (G.2.2.2.1, 6, .inl (fun _ => zI 0))), (q10, .inl (G.2.2.2.1, 6, .inl (fun _ => zI 0))), (q11, .inl (G.2.2.2.1, 6, .inl (fun _ => zI 0))), (q12, .inl (G.2.2.2.2.1, 6, .inl (fun _ => zI 0))), (q13, .inl (G.2.2.2.1, 3600, .inl (fun _ => zI 0))), (q14, .inl (G.2.2.2.1, 6000, .inl (fun _ => zI 0))), (q15, .inl (G.2.2.2.1, 150, .inl (fun _ => zI 0))), (q16, .inl (G.2.2.2.1, 300, .inl (fun _ => zI 0)))]) rfl ?_
  refine n_aload (i := 0) dX7_init_156 rfl rfl ?_
  refine n_bipush 40 dX7_init_157 (by decide +kernel) ?_
  refine n_newaI 40 dX7_init_159 rfl (by decide) (Nat.le_of_ble_eq_true rfl) (Nat.le_of_ble_eq_true rfl) zn_arrI (fun q17 => ?_)
  refine n_ws (ws' := [(h0, .inr (9, [.int (zI 0), .ref q0, .ref q1, .int (zI 0), .ref q2, .int (zI 13), .int (zI 0), .ref q3, .ref q4, .ref q5, .int (zI 0), .ref q6, .ref q7, .ref q8, .ref q9, .ref q10, .ref q11, .ref q12, .int (zI 0), .int (zI 0), .ref q13, .int (zI 0), .ref q14, .ref q15, .int (zI 0), .ref q16, .int (zI 0), .int (zI 0), .null, .int (zI 0)])), (q0, .inl (G.2.2.2.1, 256, .inl (fun _ => zI 0))), (q1, .inl (G.2.2.2.1, 5120, .inl (fun _ => zI 0))), (q2, .inl (G.2.2.2.2.1, 256, .inl (fun _ => zI 0))), (q3, .inl (G.2.2.2.1, 8, .inl (fun _ => zI 0))), (q4, .inl (G.2.2.2.1, 240, .inl (fun _ => zI 0))), (q5, .inl (G.2.2.2.1, 28800, .inl (fun _ => zI 0))), (q6, .inl (G.2.2.2.1, 6, .inl (fun _ => zI 0))), (q7, .inl (G.2.2.2.1, 6, .inl (fun _ => zI 0))), (q8, .inl (G.2.2.2.1, 768, .inl (fun _ => zI 0))), (q9, .inl (G.2.2.2.1, 6, .inl (fun _ => zI 0))), (q10, .inl (G.2.2.2.1, 6, .inl (fun _ => zI 0))), (q11, .inl (G.2.2.2.1, 6, .inl (fun _ => zI 0))), (q12, .inl (G.2.2.2.2.1, 6, .inl (fun _ => zI 0))), (q13, .inl (G.2.2.2.1, 3600, .inl (fun _ => zI 0))), (q14, .inl (G.2.2.2.1, 6000, .inl (fun _ => zI 0))), (q15, .inl (G.2.2.2.1, 150, .inl (fun _ => zI 0))), (q16, .inl (G.2.2.2.1, 300, .inl (fun _ => zI 0))), (q17, .inl (G.2.2.2.1, 40, .inl (fun _ => zI 0)))]) rfl ?_
  refine n_putF 0 dX7_init_161 zq_X7_66 rfl (Nat.le_of_ble_eq_true rfl) rfl rfl ?_
  refine n_ws (ws' := [(h0, .inr (9, [.int (zI 0), .ref q0, .ref q1, .int (zI 0), .ref q2, .int (zI 13), .int (zI 0), .ref q3, .ref q4, .ref q5, .int (zI 0), .ref q6, .ref q7, .ref q8, .ref q9, .ref q10, .ref q11, .ref q12, .int (zI 0), .int (zI 0), .ref q13, .int (zI 0), .ref q14, .ref q15, .int (zI 0), .ref q16, .int (zI 0), .int (zI 0), .ref q17, .int (zI 0)])), (q0, .inl (G.2.2.2.1, 256, .inl (fun _ => zI 0))), (q1, .inl (G.2.2.2.1, 5120, .inl (fun _ => zI 0))), (q2, .inl (G.2.2.2.2.1, 256, .inl (fun _ => zI 0))), (q3, .inl (G.2.2.2.1, 8, .inl (fun _ => zI 0))), (q4, .inl (G.2.2.2.1, 240, .inl (fun _ => zI 0))), (q5, .inl (G.2.2.2.1, 28800, .inl (fun _ => zI 0))), (q6, .inl (G.2.2.2.1, 6, .inl (fun _ => zI 0))), (q7, .inl (G.2.2.2.1, 6, .inl (fun _ => zI 0))), (q8, .inl (G.2.2.2.1, 768, .inl (fun _ => zI 0))), (q9, .inl (G.2.2.2.1, 6, .inl (fun _ => zI 0))), (q10, .inl (G.2.2.2.1, 6, .inl (fun _ => zI 0))), (q11, .inl (G.2.2.2.1, 6, .inl (fun _ => zI 0))), (q12, .inl (G.2.2.2.2.1, 6, .inl (fun _ => zI 0))), (q13, .inl (G.2.2.2.1, 3600, .inl (fun _ => zI 0))), (q14, .inl (G.2.2.2.1, 6000, .inl (fun _ => zI 0))), (q15, .inl (G.2.2.2.1, 150, .inl (fun _ => zI 0))), (q16, .inl (G.2.2.2.1, 300, .inl (fun _ => zI 0))), (q17, .inl (G.2.2.2.1, 40, .inl (fun _ => zI 0)))]) rfl ?_
  refine n_toV (ad := (fun i => [h0, q0, q1, q2, q3, q4, q5, q6, q7, q8, q9, q10, q11, q12, q13, q14, q15, q16, q17].getD i 0)) (sh := shM) (σ := (zsF zz0 0 5 13)) (X7_w h0 q0 q1 q2 q3 q4 q5 q6 q7 q8 q9 q10 q11 q12 q13 q14 q15 q16 q17) (zz0_R.F ⟨by decide, by decide⟩) rfl rfl ?_
  exact T_X7_init ⟨rfl, h q0 q1 q2 q3 q4 q5 q6 q7 q8 q9 q10 q11 q12 q13 q14 q15 q16 q17⟩

def zC0 : zSt := (fun i j => if i = 0 ∧ j = 8 then 13 else if i = 1 ∧ j = 2 then zcatS.1 0 2 else if i = 5 ∧ j = 3 then zS3.1 0 3 else if i = 5 ∧ j = 4 then zS3.1 0 4 else 0,
  fun i z => if i = 8 then zcatS.2 1 z else if i = 9 then zcatS.2 2 z else if i = 13 then zS3.2 1 z else if i = 14 then zS3.2 2 z else if i = 15 then zS3.2 3 z else 0)
set_option maxRecDepth 100000 in
set_option maxHeartbeats 4000000 in
theorem zC0_w {G : zG} (h0 q0 q1 q2 q3 q4 q5 q6 q7 q8 q9 q10 q11 q12 q13 q14 q15 q16 q17 q18 q19 q20 q21 q22 q23 q24 q25 q26 q27 q28 : Nat) : zw (zGa G (fun i => [h0, q0, q3, q4, q8, q21, q25, q27, q1, q2, q5, q6, q7, q22, q23, q24, q26, q28, q9, q11, q13, q15, q17, q19, q10, q12, q14, q16, q18, q20].getD i 0)) shC zC0 = [(h0, .inr (8, [.ref q0, .ref q3, .ref q4, .ref q8, .ref q21, .ref q25, .ref q27, .int (zI 0), .int (zI 13), .int (zI 0)])), (q0, .inr (2, [.ref q1, .ref q2, .int (zI (zcatS.1 0 2))])), (q3, .inl (G.2.2.2.2.1, 256, .inl (fun _ => zI 0))), (q4, .inr (4, [.ref q5, .ref q6, .ref q7, .int (zI 0)])), (q8, .inl (G.2.2.2.2.2.1, 6, .inr (.inr (.inr (.inr (va_up (va_up (va_up (va_up (va_up (va_up (fun _ => none) 0 (some q9)) 1 (some q11)) 2 (some q13)) 3 (some q15)) 4 (some q17)) 5 (some q19))))))), (q21, .inr (5, [.ref q22, .ref q23, .ref q24, .int (zI (zS3.1 0 3)), .int (zI (zS3.1 0 4))])), (q25, .inr (7, [.ref q26, .int (zI 0)])), (q27, .inr (6, [.ref q28, .int (zI 0)])), (q1, .inl (G.2.2.2.1, 256, .inl (fun k => zI (zcatS.2 1 k)))), (q2, .inl (G.2.2.2.1, 5120, .inl (fun k => zI (zcatS.2 2 k)))), (q5, .inl (G.2.2.2.1, 8, .inl (fun _ => zI 0))), (q6, .inl (G.2.2.2.1, 240, .inl (fun _ => zI 0))), (q7, .inl (G.2.2.2.1, 28800, .inl (fun _ => zI 0))), (q22, .inl (G.2.2.2.1, 6000, .inl (fun k => zI (zS3.2 1 k)))), (q23, .inl (G.2.2.2.1, 150, .inl (fun k => zI (zS3.2 2 k)))), (q24, .inl (G.2.2.2.1, 40, .inl (fun k => zI (zS3.2 3 k)))), (q26, .inl (G.2.2.2.1, 3600, .inl (fun _ => zI 0))), (q28, .inl (G.2.2.2.1, 300, .inl (fun _ => zI 0))), (q9, .inr (3, [.ref q10, .int (zI 0), .int (zI 0), .int (zI 0), .int (zI 0), .int (zI 0), .int (zI 0), .int (zI 0), .int (zI 0), .int (zI 0)])), (q11, .inr (3, [.ref q12, .int (zI 0), .int (zI 0), .int (zI 0), .int (zI 0), .int (zI 0), .int (zI 0), .int (zI 0), .int (zI 0), .int (zI 0)])), (q13, .inr (3, [.ref q14, .int (zI 0), .int (zI 0), .int (zI 0), .int (zI 0), .int (zI 0), .int (zI 0), .int (zI 0), .int (zI 0), .int (zI 0)])), (q15, .inr (3, [.ref q16, .int (zI 0), .int (zI 0), .int (zI 0), .int (zI 0), .int (zI 0), .int (zI 0), .int (zI 0), .int (zI 0), .int (zI 0)])), (q17, .inr (3, [.ref q18, .int (zI 0), .int (zI 0), .int (zI 0), .int (zI 0), .int (zI 0), .int (zI 0), .int (zI 0), .int (zI 0), .int (zI 0)])), (q19, .inr (3, [.ref q20, .int (zI 0), .int (zI 0), .int (zI 0), .int (zI 0), .int (zI 0), .int (zI 0), .int (zI 0), .int (zI 0), .int (zI 0)])), (q10, .inl (G.2.2.2.1, 121, .inl (fun _ => zI 0))), (q12, .inl (G.2.2.2.1, 121, .inl (fun _ => zI 0))), (q14, .inl (G.2.2.2.1, 121, .inl (fun _ => zI 0))), (q16, .inl (G.2.2.2.1, 121, .inl (fun _ => zI 0))), (q18, .inl (G.2.2.2.1, 121, .inl (fun _ => zI 0))), (q20, .inl (G.2.2.2.1, 121, .inl (fun _ => zI 0)))] := by
  rw [zw_l]
  unfold shC
  simp only [zwl]
  have e : (va_up (va_up (va_up (va_up (va_up (va_up (fun _ => none) 0 (some q9)) 1 (some q11)) 2 (some q13)) 3 (some q15)) 4 (some q17)) 5 (some q19)) = fun k => (([18, 19, 20, 21, 22, 23] : List Nat)[k]?).map (zad (zGa G (fun i => [h0, q0, q3, q4, q8, q21, q25, q27, q1, q2, q5, q6, q7, q22, q23, q24, q26, q28, q9, q11, q13, q15, q17, q19, q10, q12, q14, q16, q18, q20].getD i 0))) := by
    funext k
    match k with
    | 0 => rfl
    | 1 => rfl
    | 2 => rfl
    | 3 => rfl
    | 4 => rfl
    | 5 => rfl
    | k + 6 => simp [va_up]
  rw [e]
  simp only [zcell, zfs_l]
  rfl
def zC0_p : List Nat := [0, 1, 4, 5, 9, 22, 26, 28, 2, 3, 6, 7, 8, 23, 24, 25, 27, 29, 10, 12, 14, 16, 18, 20, 11, 13, 15, 17, 19, 21]
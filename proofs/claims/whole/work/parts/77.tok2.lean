theorem zk_X6_token : zcalV mX6_token RX6 2 := ⟨⟨⟨(wr_1 _ (List.mem_of_getElem? (i := 2) rfl)), (wr_20 _ (List.mem_of_getElem? (i := 19) rfl))⟩, ⟨by decide +kernel, by decide +kernel, by decide +kernel⟩, by decide +kernel, rfl⟩, (wr_20 _ (List.mem_of_getElem? (i := 17) rfl)), (wr_20 _ (List.mem_of_getElem? (i := 18) rfl))⟩
theorem zl_L_7 : Cond.methodLink RL 7 yX6_token ∈ wsL_law0 := (wr_20 _ (List.mem_of_getElem? (i := 16) rfl))
theorem zc_L_13 : Cond.classLink RL 13 "java/lang/ArrayIndexOutOfBoundsException" ∈ wsL_law0 := (wr_20 _ (List.mem_of_getElem? (i := 15) rfl))
theorem zk_tokI : Cond.instanceMethod yX6_token ∈ wsL_law0 := (wr_20 _ (List.mem_of_getElem? (i := 17) rfl))
theorem zk_tokS : Cond.selects RX6 yX6_token yX6_token ∈ wsL_law0 := (wr_20 _ (List.mem_of_getElem? (i := 18) rfl))
theorem zk_tokC : Cond.code yX6_token cX6_token 3 (some .int) ∈ wsL_law0 := (wr_20 _ (List.mem_of_getElem? (i := 19) rfl))
theorem zk_tok6 : Cond.initialized RX6 ∈ wsL_law0 := (wr_1 _ (List.mem_of_getElem? (i := 2) rfl))
set_option maxRecDepth 100000 in
theorem M_X6_token {G : zG} {σ : zSt} {Post : Option Value → zSt → Prop} (a k : Int) (ha : zR a) (ha0 : 0 ≤ a) (ha1 : a < σ.1 6 1) (hs : σ.1 6 1 ≤ 600) (hk0 : 0 ≤ k) (hk : k < 6) (h : Post (some (.int (zI (σ.2 16 (a * 6 + k))))) σ) : zV G shC mX6_token 0 (zini 3 [.ref (zad G 0), .int (zI a), .int (zI k)]) [] σ Post := by
  refine z_rg (fun hR => ?_)
  refine z_lv (lv' := [some (.ref (zad G 0)), some (.int (zI a)), some (.int (zI k))]) rfl ?_
  refine z_aload_0 dX6_token_0 ?_
  refine z_getR (j := 5) dX6_token_1 zf_X6_44 rfl rfl ?_
  refine z_iload_1 dX6_token_4 ?_
  refine z_callV mX5_has [.int (zI a)] dX6_token_5 zk_X5_has zl_X6_140 ⟨Nat.le_of_ble_eq_true rfl, Nat.le_of_ble_eq_true rfl⟩ rfl rfl (Nat.le_of_ble_eq_true rfl) (Nat.le_of_ble_eq_true rfl) ?_
  refine M_X5_has a (by omega) (fun i1 i2 => ?_) (fun i1 => by exfalso; omega)
  refine z_b1 ?_
  refine z_if_eq (tgt := 21) dX6_token_8 (by decide) ⟨by decide, by decide⟩ (fun c8 => by exfalso; omega) (fun c8 => ?_)
  refine z_iload_2 dX6_token_11 ?_
  refine z_if_lt (tgt := 21) dX6_token_12 (by decide) (by omega) (fun c12 => by exfalso; omega) (fun c12 => ?_)
  refine z_iload_2 dX6_token_15 ?_
  refine z_bipush 6 dX6_token_16 (by decide +kernel) ?_
  refine z_icmp_lt (tgt := 31) dX6_token_18 (by decide) (by omega) ⟨by decide, by decide⟩ (fun c18 => ?_) (fun c18 => by exfalso; omega)
  refine z_aload_0 dX6_token_31 ?_
  refine z_getR (j := 5) dX6_token_32 zf_X6_44 rfl rfl ?_
  refine z_iload_1 dX6_token_35 ?_
  refine z_iload_2 dX6_token_36 ?_
  refine z_callV mX5_part [.int (zI a), .int (zI k)] dX6_token_37 zk_X5_part zl_X6_150 ⟨Nat.le_of_ble_eq_true rfl, Nat.le_of_ble_eq_true rfl⟩ rfl rfl (Nat.le_of_ble_eq_true rfl) (Nat.le_of_ble_eq_true rfl) ?_
  refine M_X5_part a k (by omega) (by omega) (by omega) (by omega) (by omega) ?_
  refine z_b1 ?_
  have w1 : zR (σ.2 16 ((a * 6) + k)) := hR.2 16 ((a * 6) + k)
  refine z_iret dX6_token_40 rfl ?_
  exact h

def wsLt : List Cond := .codeWith yL_token cL_token 5 (some .int) [(0, 10, 13, 13)] :: zTs
def rmLt : Room := { frames := 8, cells := 1, slots := 6, locals := 117 }
def zLa (cL : ClassId) (oa : Nat) (f : Nat → Int64) : va_W := [(oa, .inl (cL, 1, .inr (.inl f)))]
def zLw (G : zG) (cL : ClassId) (oa : Nat) (σ : zSt) (f : Nat → Int64) : va_W := zw G shC σ ++ zLa cL oa f
theorem zLw_P {G : zG} {cL : ClassId} {oa : Nat} {σ : zSt} {f : Nat → Int64} {D : va_G} {cl : List vw_C} {H : Heap} : va_P D cl (zLw G cL oa σ f) H ↔ va_P D cl (zw G shC σ) H ∧ va_P D cl (zLa cL oa f) H := by
  refine ⟨fun h => ⟨fun k q hq => h k q ?_, fun k q hq => h ((zw G shC σ).length + k) q ?_⟩, fun h => h.1.app h.2⟩
  · rw [zLw, List.getElem?_append_left (List.getElem?_eq_some_iff.mp hq).1]; exact hq
  · rw [zLw, List.getElem?_append_right (by omega), Nat.add_sub_cancel_left]; exact hq
def zpcL (G : zG) (cL : ClassId) (oa : Nat) (σ : zSt) (f : Nat → Int64) (sz sa : Nat) (as : List Value) : Array Value → State → Prop := va_Pc as (fun U => U.heap.size = sz ∧ va_P (zD G) vwCl (zLw G cL oa σ f) U.heap ∧ va_K (zD G) vwCl (zT G ++ [(cL, .long)]) U ∧ (∀ σ, va_D (fun _ => True) (zLw G cL oa σ f)) ∧ zXs sa (va_A (zLw G cL oa σ f) sz) U U.heap)
theorem zpcL_blind {G : zG} {cL : ClassId} {oa : Nat} {σ : zSt} {f : Nat → Int64} {sz sa : Nat} {as : List Value} : FrameBlind (zpcL G cL oa σ f sz sa as) := fun a U g mk q => by
  obtain ⟨q0, q1, qP, qK, qD, qX⟩ := q
  exact ⟨q0, q1, qP, va_K.moved (u := U) (U := U.calling g mk a) (Vm.Alike.refl U.vm) qK, qD, zXs.same (u := U) rfl qX⟩
def zQL (G : zG) (cL : ClassId) (oa : Nat) (σ : zSt) (Post : Int → (Nat → Int64) → Prop) (A : Nat → Prop) : Array Value → State → Outcome → State → Prop := fun _ st oc t =>
  (∃ (v : Int) (f' : Nat → Int64), oc = .returned (some (.int (zI v))) ∧ Post v f' ∧ va_P (zD G) vwCl (zLw G cL oa σ f') t.heap) ∧ va_F A st t

set_option maxRecDepth 100000 in
set_option maxHeartbeats 4000000 in
theorem T_Ltok_ok {G : zG} {σ : zSt} {cL : ClassId} {oa : Nat} {f : Nat → Int64} (hR : zRg σ) (sz sa : Nat) (i k : Int) (hi : zR i) (hi0 : 0 ≤ i) (hi1 : i < σ.1 6 1) (hs6 : σ.1 6 1 ≤ 600) (hk0 : 0 ≤ k) (hk1 : k < 6) :
    Met G.1 yL_token wsLt rmLt (zpcL G cL oa σ f sz sa [.ref (zad G 0), .int (zI i), .int (zI k), .ref oa]) (zQL G cL oa σ (fun v f' => v = 0 ∧ f' 0 = (zI (σ.2 16 (i * 6 + k))).toInt64) (va_A (zLw G cL oa σ f) sz)) 1 6 (va_A (zLw G cL oa σ f) sz) := by
  refine va_MetW (cc := cL_token) (maxL := 5) (ret := some .int) (hh := [(0, 10, 13, 13)]) (by decide +kernel) rfl ?_
  intro p e s m args below meth c s₁ B hml hv
  obtain ⟨rfl, hsz, hP, hK, hD0, hX⟩ := hv
  have hx := B.exec
  have hb := B.bytes
  have hr := B.returns
  have hts := atoms_spec (ws := wsLt) B.pre
  have htsT : ∀ w ∈ zTs, w.before #[Value.ref (zad G 0), Value.int (zI i), Value.int (zI k), Value.ref oa] s = true := fun w h => hts w (List.mem_cons_of_mem _ h)
  have hts0 : ∀ w ∈ wsL_law0, w.before #[Value.ref (zad G 0), Value.int (zI i), Value.int (zI k), Value.ref oa] s = true := fun w h => htsT w (zTs_0 w h)
  have hown : s.vm.findClass RL = some m.cls := findClass_of_methodNamed B.named
  have hlocks := B.notSynchronized
  have hl := lv_entry ([.ref (zad G 0), .int (zI i), .int (zI k), .ref oa]) (n := 5) (Nat.le_of_ble_eq_true rfl)
  rw [lg_entry_eq]
  generalize (lg_sl ([.ref (zad G 0), .int (zI i), .int (zI k), .ref oa]) ++ List.replicate (5 - (lg_sl ([.ref (zad G 0), .int (zI i), .int (zI k), .ref oa])).length) Slot.unset).toArray = ls at hl ⊢
  have hl : lv_has ls 5 [(0, .ref (zad G 0)), (1, .int (zI i)), (2, .int (zI k)), (3, .ref oa)] := hl
  subst hsz
  have hDL : ∀ σ', va_D (va_A (zLw G cL oa σ f) s.heap.size) (zLw G cL oa σ' f) := fun σ' => ⟨(hD0 σ').1, fun j q hq => by
    have hlen : (zLw G cL oa σ' f).length = (zLw G cL oa σ f).length := by rw [zLw, zLw, List.length_append, List.length_append, zw_len, zw_len]
    have hj := (List.getElem?_eq_some_iff.mp hq).1
    by_cases hlt : j < (zw G shC σ').length
    · rw [zLw, List.getElem?_append_left hlt] at hq
      obtain ⟨e9, he9⟩ := zw_adr (σ := σ) hq
      exact Or.inl ⟨j, e9, by rw [zLw, List.getElem?_append_left (List.getElem?_eq_some_iff.mp he9).1]; exact he9⟩
    · rw [zLw, List.getElem?_append_right (by omega), zw_len] at hq
      exact Or.inl ⟨j, q.2, by rw [zLw, List.getElem?_append_right (by rw [zw_len] at hlt ⊢; omega), zw_len]; exact hq⟩⟩
  have hD : ∀ σ', va_D (va_A (zLw G cL oa σ f) s.heap.size) (zw G shC σ') := fun σ' => ⟨fun i j p q h1 h2 he => (hDL σ').1 i j p q (by rw [zLw, List.getElem?_append_left (List.getElem?_eq_some_iff.mp h1).1]; exact h1) (by rw [zLw, List.getElem?_append_left (List.getElem?_eq_some_iff.mp h2).1]; exact h2) he, fun j q h1 => (hDL σ').2 j q (by rw [zLw, List.getElem?_append_left (List.getElem?_eq_some_iff.mp h1).1]; exact h1)⟩
  have hA : ∀ q : Nat, s.heap.size ≤ q → va_A (zLw G cL oa σ f) s.heap.size q := fun q h => Or.inr h
  have hS : va_S (va_A (zLw G cL oa σ f) s.heap.size) s.heap s.heap [] := va_S.rf
  have hPc := (zLw_P.mp hP).1
  have hPo := (zLw_P.mp hP).2
  have hK3 : va_K (zD G) vwCl (zT G) s := hK.sub [0, 1, 2] rfl
  have hsubA : ∀ q, va_A (zw G shC σ) s.heap.size q → va_A (zLw G cL oa σ f) s.heap.size q := fun q h => by
    rcases h with ⟨j, e9, he⟩ | h
    · exact Or.inl ⟨j, e9, by rw [zLw, List.getElem?_append_left (List.getElem?_eq_some_iff.mp he).1]; exact he⟩
    · exact Or.inr h
  have hno : ¬ va_A (zw G shC σ) s.heap.size oa := fun h => by
    rcases h with ⟨j, e9, he⟩ | h
    · have h1 := (List.getElem?_eq_some_iff.mp he).1
      have := (hDL σ).1 j (zw G shC σ).length (oa, e9) (oa, .inl (cL, 1, .inr (.inl f))) (by rw [zLw, List.getElem?_append_left h1]; exact he) (by rw [zLw, List.getElem?_append_right (Nat.le_refl _), Nat.sub_self]; rfl) rfl
      omega
    · have := (hPo 0 _ rfl).lt
      exact absurd h (Nat.not_le.mpr this)
  refine lv_aload_n hx hb dL_token_0 rfl (lv_at hl 3 rfl) ?_
  refine lv_iconst (v := zI 0) hx hb dL_token_1 rfl ?_
  refine lv_aload_n hx hb dL_token_2 rfl (lv_at hl 0 rfl) ?_
  refine lv_iload_n hx hb dL_token_3 rfl (lv_at hl 1 rfl) ?_
  refine lv_iload_n hx hb dL_token_4 rfl (lv_at hl 2 rfl) ?_
  refine g_callV mX6_token [.int (zI i), .int (zI k)] (rest := [.int (zI 0), .ref oa]) (nL := 5) (own := RL) ⟨hx, hb, hml, hown, htsT⟩ zTs_0 hK3 hPc hD hS hA hR zk_X6_token zl_L_7 ⟨Nat.le_of_ble_eq_true rfl, Nat.le_of_ble_eq_true rfl⟩ (i := 0) rfl rfl (Nat.le_of_ble_eq_true rfl) (Nat.le_of_ble_eq_true rfl) hl.1 (Nat.zero_le _) (Nat.zero_le _) dL_token_5 ?_
  refine M_X6_token i k hi hi0 hi1 hs6 hk0 hk1 ?_
  intro H1 locs1 hR1 hP1 hS1 hz1 hk1
  have hPo1 : va_P (zD G) vwCl (zLa cL oa f) H1 := hPo.kept (fun j q hq => by
    cases j with
    | zero => cases hq; exact hk1 oa (hPo 0 _ rfl).lt hno
    | succ j => cases hq)
  refine lv_i2l (v := (zI (σ.2 16 (i * 6 + k))).toInt64) hx hb dL_token_8 rfl ?_
  refine va_last hx hb hK (zLw_P.mpr ⟨hP1, hPo1⟩) (hDL σ) hS1 (zw G shC σ).length 3 (by rw [zLw, List.getElem?_append_right (Nat.le_refl _), Nat.sub_self]; rfl) rfl (zI_in (by omega) (by omega) (by omega)) dL_token_9 (fun H2 locs2 hP2 _ hS2 => ?_)
  refine lv_goto (tgt := 17) hx hb dL_token_10 (by decide) ?_
  refine lv_iconst (v := zI 0) hx hb dL_token_17 rfl ?_
  refine W.widen (k := 1) (n := 6) (by omega) (by omega) ?_
  refine W.iret hx hb hr (fun t ht hW => ⟨⟨0, vp_updL f (zI 0).toNatClampNeg (zI (σ.2 16 (i * 6 + k))).toInt64, rfl, ⟨rfl, by rw [zI_cl (by omega) (by omega)]; exact if_pos rfl⟩, ?_⟩, hS2.F ht⟩) hS2.2.2 dL_token_18
  rw [ht]
  rw [zLw, List.set_append_right _ _ (Nat.le_refl _), Nat.sub_self] at hP2
  exact hP2

set_option maxRecDepth 100000 in
set_option maxHeartbeats 4000000 in
theorem T_Ltok_bad {G : zG} {σ : zSt} {cL : ClassId} {oa : Nat} {f : Nat → Int64} (hst : G.1.stackTraces = false) (hR : zRg σ) (sz sa : Nat) (i k : Int) (hi : zR i) (hk : zR k) (hbad : ¬ (0 ≤ i ∧ i < σ.1 6 1 ∧ 0 ≤ k ∧ k < 6)) :
    Met G.1 yL_token wsLt rmLt (zpcL G cL oa σ f sz sa [.ref (zad G 0), .int (zI i), .int (zI k), .ref oa]) (zQL G cL oa σ (fun v f' => v = 1 ∧ f' = f) (va_A (zLw G cL oa σ f) sz)) 1 6 (va_A (zLw G cL oa σ f) sz) := by
  refine va_MetW (cc := cL_token) (maxL := 5) (ret := some .int) (hh := [(0, 10, 13, 13)]) (by decide +kernel) rfl ?_
  intro p e s m args below meth c s₁ B hml hv
  obtain ⟨rfl, hsz, hP, hK, hD0, hX⟩ := hv
  have hx := B.exec
  have hb := B.bytes
  have hr := B.returns
  have hts := atoms_spec (ws := wsLt) B.pre
  have htsT : ∀ w ∈ zTs, w.before #[Value.ref (zad G 0), Value.int (zI i), Value.int (zI k), Value.ref oa] s = true := fun w h => hts w (List.mem_cons_of_mem _ h)
  have hts0 : ∀ w ∈ wsL_law0, w.before #[Value.ref (zad G 0), Value.int (zI i), Value.int (zI k), Value.ref oa] s = true := fun w h => htsT w (zTs_0 w h)
  have hown : s.vm.findClass RL = some m.cls := findClass_of_methodNamed B.named
  have hlocks := B.notSynchronized
  have hl := lv_entry ([.ref (zad G 0), .int (zI i), .int (zI k), .ref oa]) (n := 5) (Nat.le_of_ble_eq_true rfl)
  rw [lg_entry_eq]
  generalize (lg_sl ([.ref (zad G 0), .int (zI i), .int (zI k), .ref oa]) ++ List.replicate (5 - (lg_sl ([.ref (zad G 0), .int (zI i), .int (zI k), .ref oa])).length) Slot.unset).toArray = ls at hl ⊢
  have hl : lv_has ls 5 [(0, .ref (zad G 0)), (1, .int (zI i)), (2, .int (zI k)), (3, .ref oa)] := hl
  subst hsz
  have hDL : ∀ σ', va_D (va_A (zLw G cL oa σ f) s.heap.size) (zLw G cL oa σ' f) := fun σ' => ⟨(hD0 σ').1, fun j q hq => by
    have hlen : (zLw G cL oa σ' f).length = (zLw G cL oa σ f).length := by rw [zLw, zLw, List.length_append, List.length_append, zw_len, zw_len]
    have hj := (List.getElem?_eq_some_iff.mp hq).1
    by_cases hlt : j < (zw G shC σ').length
    · rw [zLw, List.getElem?_append_left hlt] at hq
      obtain ⟨e9, he9⟩ := zw_adr (σ := σ) hq
      exact Or.inl ⟨j, e9, by rw [zLw, List.getElem?_append_left (List.getElem?_eq_some_iff.mp he9).1]; exact he9⟩
    · rw [zLw, List.getElem?_append_right (by omega), zw_len] at hq
      exact Or.inl ⟨j, q.2, by rw [zLw, List.getElem?_append_right (by rw [zw_len] at hlt ⊢; omega), zw_len]; exact hq⟩⟩
  have hD : ∀ σ', va_D (va_A (zLw G cL oa σ f) s.heap.size) (zw G shC σ') := fun σ' => ⟨fun i j p q h1 h2 he => (hDL σ').1 i j p q (by rw [zLw, List.getElem?_append_left (List.getElem?_eq_some_iff.mp h1).1]; exact h1) (by rw [zLw, List.getElem?_append_left (List.getElem?_eq_some_iff.mp h2).1]; exact h2) he, fun j q h1 => (hDL σ').2 j q (by rw [zLw, List.getElem?_append_left (List.getElem?_eq_some_iff.mp h1).1]; exact h1)⟩
  have hA : ∀ q : Nat, s.heap.size ≤ q → va_A (zLw G cL oa σ f) s.heap.size q := fun q h => Or.inr h
  have hS : va_S (va_A (zLw G cL oa σ f) s.heap.size) s.heap s.heap [] := va_S.rf
  have hPc := (zLw_P.mp hP).1
  have hPo := (zLw_P.mp hP).2
  have hK3 : va_K (zD G) vwCl (zT G) s := hK.sub [0, 1, 2] rfl
  have hsubA : ∀ q, va_A (zw G shC σ) s.heap.size q → va_A (zLw G cL oa σ f) s.heap.size q := fun q h => by
    rcases h with ⟨j, e9, he⟩ | h
    · exact Or.inl ⟨j, e9, by rw [zLw, List.getElem?_append_left (List.getElem?_eq_some_iff.mp he).1]; exact he⟩
    · exact Or.inr h
  have hno : ¬ va_A (zw G shC σ) s.heap.size oa := fun h => by
    rcases h with ⟨j, e9, he⟩ | h
    · have h1 := (List.getElem?_eq_some_iff.mp he).1
      have := (hDL σ).1 j (zw G shC σ).length (oa, e9) (oa, .inl (cL, 1, .inr (.inl f))) (by rw [zLw, List.getElem?_append_left h1]; exact he) (by rw [zLw, List.getElem?_append_right (Nat.le_refl _), Nat.sub_self]; rfl) rfl
      omega
    · have := (hPo 0 _ rfl).lt
      exact absurd h (Nat.not_le.mpr this)
  refine lv_aload_n hx hb dL_token_0 rfl (lv_at hl 3 rfl) ?_
  refine lv_iconst (v := zI 0) hx hb dL_token_1 rfl ?_
  refine lv_aload_n hx hb dL_token_2 rfl (lv_at hl 0 rfl) ?_
  refine lv_iload_n hx hb dL_token_3 rfl (lv_at hl 1 rfl) ?_
  refine lv_iload_n hx hb dL_token_4 rfl (lv_at hl 2 rfl) ?_
  have hgood : GoodIn zTs wsTok := fun w hw => by
    have hw' : w ∈ zTs := by
      rcases List.mem_cons.mp hw with rfl | h
      · exact zTs_0 _ zk_tokC
      · exact h
    exact ⟨hw', zTs_good hw'⟩
  have cb := callB_of (own := RL) (index := 7) (R := (headSpec wsLt rmLt).room) (rm := rmTok) (mc := 1) (ms := 6) (y := yX6_token) (bytes := cX6_token) (maxL := 3) (ret := some .int) 2 htsT hgood rfl rfl rfl (hts0 _ zk_tok6) (hts0 _ zl_L_7) ⟨by decide +kernel, by decide +kernel, by decide +kernel⟩ ⟨Nat.le_of_ble_eq_true rfl, Nat.le_of_ble_eq_true rfl⟩
  have hM := T_tok hst hR s.heap.size sa i k hi hk hbad
  have hrun := vx_runV (As := [.int (zI i), .int (zI k)]) (rest := [.int (zI 0), .ref oa]) (own := RL) (C := RX6) (H := s.heap) (locs := []) (cells := 0) (slots := 0) (e := e) (below := below) (meth := meth) (b := zad G 0) (nL := 5) (g := F0 m 5 ls [.int (zI k), .int (zI i), .ref (zad G 0), .int (zI 0), .ref oa]) (Ts := zTs) (cc := cL_token) ⟨hx, hb, hml, hown, htsT⟩ hM ⟨cb, hts0 _ zk_tokI, hts0 _ zk_tokS⟩
    ⟨fun a U g mk q => by obtain ⟨q0, q1, qP, qK, qD, qX⟩ := q; exact ⟨q0, q1, qP, va_K.moved (u := U) (U := U.calling g mk a) (Vm.Alike.refl U.vm) qK, qD, zXs.same (u := U) rfl qX⟩, va_recv hK3 hPc (ci := 8) (q0 := 0) rfl (zw_at (i := 0) (s := .inl (8, [some 1, some 2, some 3, some 4, some 5, some 6, some 7, none, none, none])) rfl), fun U hU hW => ⟨rfl, by rw [hU], by rw [hU]; exact hPc, va_K.moved hW.alike hK3, fun σ' => (hD σ').weaken (fun _ _ _ _ => trivial), by rw [hU]; exact (hX.warm hW).narrow hsubA⟩⟩ rfl rfl hl.1 rfl (lv_room (Nat.le_of_ble_eq_true rfl)) dL_token_5 ⟨Nat.le_of_ble_eq_true rfl, Nat.le_of_ble_eq_true rfl⟩
  intro T hT X
  rcases hrun T hT X with ⟨v, st₀, t, T', L, h0, X', hL, e1, e2, hq, st⟩ | ⟨q9, st₀, t, T', L, E, ce, h0, X', hL, e1, e2, ⟨u, -, ⟨hE, hP'⟩, hF⟩, hce, hcv, hcl, st⟩
  · exact hq.elim
  · subst hE
    obtain ⟨hz, hkk⟩ := hF
    rw [h0] at hz hkk
    have hS1 : va_S (va_A (zLw G cL oa σ f) s.heap.size) s.heap T'.heap ([] ++ L) := ⟨by rw [e1]; exact hz, fun q h1 h2 => by rw [e1]; exact hkk q h1 (fun z => h2 (hsubA q z)), fun q hq => by
      rcases List.mem_append.mp hq with h | h
      · cases h
      · exact hsubA _ (hL q h)⟩
    have hPo1 : va_P (zD G) vwCl (zLa cL oa f) T'.heap := hPo.kept (fun j q hq => by
      cases j with
      | zero => cases hq; rw [e1]; exact hkk oa (hPo 0 _ rfl).lt hno
      | succ j => cases hq)
    have htb : c.exceptionTable.toList = tableOf [(0, 10, 13, 13)] := vx_table (x := yL_token) B (hts _ List.mem_cons_self)
    have hcatch : vx_W p G.1 e (headSpec wsLt rmLt).room s m #[Value.ref (zad G 0), Value.int (zI i), Value.int (zI k), Value.ref oa] below meth c T'.heap ([] ++ L) (0 + 1) (0 + 6) (MQ below (zQL G cL oa σ (fun v f' => v = 1 ∧ f' = f) (va_A (zLw G cL oa σ f) s.heap.size)) #[Value.ref (zad G 0), Value.int (zI i), Value.int (zI k), Value.ref oa] s 1 6 (va_A (zLw G cL oa σ f) s.heap.size)) (F0 m 5 ls [.int (zI 0), .ref oa]) q9 := by
      refine vx_catch (own := RL) (name := "java/lang/ArrayIndexOutOfBoundsException") (E := RJx00060) hown [] ⟨0, 10, 13, 13⟩ [] htb (fun z hz => nomatch hz) (by decide +kernel) (by decide) (hts0 _ zc_L_13) (va_Nw.use rfl (hX.2.1 _ zBad_cast)) (by rw [e1]; exact hce) hcv hcl ?_
      refine lv_astore (nL := 5) (lv' := [(4, .ref q9), (0, .ref (zad G 0)), (1, .int (zI i)), (2, .int (zI k)), (3, .ref oa)]) hx hb dL_token_13 hl (by decide) rfl (fun ls2 hl2 => ?_)
      refine lv_iconst (v := zI 1) hx hb dL_token_15 rfl ?_
      refine W.iret hx hb hr (fun t2 ht hW => ⟨⟨1, f, rfl, ⟨rfl, rfl⟩, ?_⟩, hS1.F ht⟩) hS1.2.2 dL_token_16
      rw [ht]
      exact zLw_P.mpr ⟨by rw [e1]; exact hP', hPo1⟩
    obtain ⟨t2, a1, b1⟩ := hcatch T' rfl X'
    exact ⟨t2, st.trans a1, b1⟩

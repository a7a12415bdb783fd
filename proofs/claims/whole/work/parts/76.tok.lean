def zNm : List String := ["java/lang/IndexOutOfBoundsException", "java/lang/RuntimeException", "java/lang/Exception"]
def zAt : List Cond := vx_atS RX6 147 RJx00060 zNm
def zBad : List Cond := zAt.filter (fun w => !goodWord w)
def zGd : List Cond := zAt.filter goodWord
theorem zBad_is : zBad.all (fun w => match w with | .castable .. => true | .declares .. => true | _ => false) = true := by decide +kernel
set_option maxRecDepth 20000 in
theorem zAt_in : ∀ w ∈ zAt, w ∈ lw_tbl := by decide +kernel
theorem zAt_ot : ∀ w ∈ Cond.classLink RX6 143 RJx00060 :: Cond.initialized RJx00060 :: zAt, vx_ot w = true := by decide +kernel
theorem zBad_tab : ∀ w ∈ zBad, w.onTables = true := by decide +kernel
theorem zBad_cast : Cond.castable RJx00060 RJx00060 ∈ zBad := by decide +kernel
def zTs : List Cond := wsL_law0 ++ zGd
theorem zTs_0 : ∀ w ∈ wsL_law0, w ∈ zTs := fun w h => List.mem_append_left _ h
theorem zTs_good {w : Cond} (h : w ∈ zTs) : (w.onTables && w.keeps) = true ∨ ∃ ty, w = .arrayClass ty := by
  rcases List.mem_append.mp h with h | h
  · exact z_goodw h
  · exact good_of_word (List.mem_filter.mp h).2
theorem zBad_warm {u U : State} (hW : u.WarmedH U.vm) (h : ∀ w ∈ zBad, va_Nw w u) : ∀ w ∈ zBad, va_Nw w U := fun w hw => by
  have hb := List.all_eq_true.mp zBad_is w hw
  have h1 := h w hw
  cases w <;> first | (exact absurd hb Bool.false_ne_true) | skip
  case castable a b =>
    exact va_tabs rfl (rfl : (u.setVm U.vm).vm = U.vm) (by rw [Cond.castable_setVm hW.alike]; exact h1)
  case declares a => exact va_Nw.warmD hW h1
/-- what a throw of the class's own needs beside the words -/
def zXs (sa : Nat) (A : Nat → Prop) (U : State) (H : Heap) : Prop := vk_R RX6 145 "no such token or what" sa U ∧ (∀ w ∈ zBad, va_Nw w U) ∧ vx_Zq Bundle.tN "UNASSIGNED_STACK" Bundle.steD A U H ∧ vx_Zq Bundle.tN "SUPPRESSED_SENTINEL" Bundle.listD A U H
theorem zXs.warm {sa : Nat} {A : Nat → Prop} {u U : State} {H : Heap} (hW : u.WarmedH U.vm) (h : zXs sa A u H) : zXs sa A U H := ⟨vk_R.warm hW h.1, zBad_warm hW h.2.1, vx_Zq.moved hW.alike h.2.2.1, vx_Zq.moved hW.alike h.2.2.2⟩
theorem zXs.kept {sa : Nat} {A : Nat → Prop} {U : State} {H H1 : Heap} (h : zXs sa A U H) (hq : ∀ a : Nat, a < H.size → ¬ A a → H1[a]? = H[a]?) : zXs sa A U H1 := ⟨h.1, h.2.1, vx_Zq.kept h.2.2.1 hq, vx_Zq.kept h.2.2.2 hq⟩
theorem zXs.narrow {sa : Nat} {A B : Nat → Prop} {U : State} {H : Heap} (h : zXs sa A U H) (hAB : ∀ q, B q → A q) : zXs sa B U H := ⟨h.1, h.2.1, h.2.2.1.narrow hAB, h.2.2.2.narrow hAB⟩
theorem zXs.same {sa : Nat} {A : Nat → Prop} {u U : State} {H : Heap} (hv : U.vm = u.vm) (h : zXs sa A u H) : zXs sa A U H := ⟨vk_R.same hv h.1, fun w hw => va_Nw.same (zBad_tab w hw) hv.symm (h.2.1 w hw), vx_Zq.moved (by rw [hv]; exact Vm.Alike.refl u.vm) h.2.2.1, vx_Zq.moved (by rw [hv]; exact Vm.Alike.refl u.vm) h.2.2.2⟩

theorem zc_tok : Cond.classLink RX6 143 RJx00060 ∈ wsL_law0 := (wr_20 _ (List.mem_of_getElem? (i := 20) rfl))
theorem zn_jx : Cond.initialized RJx00060 ∈ wsL_law0 := (wr_20 _ (List.mem_of_getElem? (i := 22) rfl))
def wsTok : List Cond := .code yX6_token cX6_token 3 (some .int) :: zTs
def rmTok : Room := { frames := 7, cells := 1, slots := 6, locals := 95 }
set_option maxRecDepth 100000 in
set_option maxHeartbeats 4000000 in
theorem T_tok {G : zG} {σ : zSt} (hst : G.1.stackTraces = false) (hR : zRg σ) (sz sa : Nat) (i k : Int) (hi : zR i) (hk : zR k) (hbad : ¬ (0 ≤ i ∧ i < σ.1 6 1 ∧ 0 ≤ k ∧ k < 6)) :
    vx_Met G.1 yX6_token wsTok rmTok (va_Pc [.ref (zad G 0), .int (zI i), .int (zI k)] (fun U => U.heap.size = sz ∧ va_P (zD G) vwCl (zw G shC σ) U.heap ∧ va_K (zD G) vwCl (zT G) U ∧ (∀ σ, va_D (fun _ => True) (zw G shC σ)) ∧ zXs sa (va_A (zw G shC σ) sz) U U.heap)) (fun _ _ _ _ => False) (vx_X (fun _ : Unit => True) (fun E _ t => E = RJx00060 ∧ va_P (zD G) vwCl (zw G shC σ) t.heap) (va_A (zw G shC σ) sz)) 1 6 (va_A (zw G shC σ) sz) := by
  refine vx_ofW (cc := cX6_token) (maxL := 3) (ret := some .int) (by decide +kernel) rfl ?_
  intro p e s m args below meth c s₁ B hml htab hv
  obtain ⟨rfl, hsz, hP, hK, hD0, hX⟩ := hv
  have hx := B.exec
  have hb := B.bytes
  have hts := atoms_spec (ws := wsTok) B.pre
  have htsT : ∀ w ∈ zTs, w.before #[Value.ref (zad G 0), Value.int (zI i), Value.int (zI k)] s = true := fun w h => hts w (List.mem_cons_of_mem _ h)
  have hts0 : ∀ w ∈ wsL_law0, w.before #[Value.ref (zad G 0), Value.int (zI i), Value.int (zI k)] s = true := fun w h => htsT w (zTs_0 w h)
  have hown : s.vm.findClass RX6 = some m.cls := findClass_of_methodNamed B.named
  have hlocks := B.notSynchronized
  have hl := lv_entry ([.ref (zad G 0), .int (zI i), .int (zI k)]) (n := 3) (Nat.le_of_ble_eq_true rfl)
  rw [lg_entry_eq]
  generalize (lg_sl ([.ref (zad G 0), .int (zI i), .int (zI k)]) ++ List.replicate (3 - (lg_sl ([.ref (zad G 0), .int (zI i), .int (zI k)])).length) Slot.unset).toArray = ls at hl ⊢
  have hl : lv_has ls 3 [(0, .ref (zad G 0)), (1, .int (zI i)), (2, .int (zI k))] := hl
  subst hsz
  have hD : ∀ σ', va_D (va_A (zw G shC σ) s.heap.size) (zw G shC σ') := fun σ' => ⟨(hD0 σ').1, fun j q hq => by
    obtain ⟨e9, he9⟩ := zw_adr (σ := σ) hq
    exact Or.inl ⟨j, e9, he9⟩⟩
  have hA : ∀ q : Nat, s.heap.size ≤ q → va_A (zw G shC σ) s.heap.size q := fun q h => Or.inr h
  have hS : va_S (va_A (zw G shC σ) s.heap.size) s.heap s.heap [] := va_S.rf
  have key : ∀ (H : Heap) (locs : List Loc), va_P (zD G) vwCl (zw G shC σ) H → va_S (va_A (zw G shC σ) s.heap.size) s.heap H locs → W p G.1 e (headSpec wsTok rmTok).room s m #[Value.ref (zad G 0), Value.int (zI i), Value.int (zI k)] below meth c H locs 0 0 (vx_MQ below (fun _ _ _ _ => False) (vx_X (fun _ : Unit => True) (fun E _ t => E = RJx00060 ∧ va_P (zD G) vwCl (zw G shC σ) t.heap) (va_A (zw G shC σ) s.heap.size)) #[Value.ref (zad G 0), Value.int (zI i), Value.int (zI k)] s 1 6 (va_A (zw G shC σ) s.heap.size)) (F0 m 21 ls []) := by
    intro H locs hP1 hS1
    refine vx_throwS (own := RX6) (cls := RJx00060) (text := "no such token or what") (names := zNm) hx hb hst hown (by decide +kernel) (by decide +kernel) (hts0 _ zc_tok) (hts0 _ zn_jx) hX.1 (fun w hw => ?_) zAt_ot hX.2.2.1 hX.2.2.2 hS1 (hl.1.trans hml.symm) dX6_token_21 dX6_token_24 dX6_token_25 dX6_token_27 dX6_token_30 (fun x hx9 => absurd (htab x hx9) id) (Nat.le_of_ble_eq_true rfl) (Nat.le_of_ble_eq_true rfl) (Nat.le_of_ble_eq_true rfl) (Nat.le_of_ble_eq_true rfl) hlocks (fun t hal hz1 hk1 => ?_) (fun z hz => hS1.2.2 z hz) (Nat.le_of_ble_eq_true rfl) (Nat.le_of_ble_eq_true rfl)
    · by_cases hg : goodWord w = true
      · exact htsT w (List.mem_append_right _ (List.mem_filter.mpr ⟨hw, hg⟩))
      · have hw9 : w ∈ zBad := List.mem_filter.mpr ⟨hw, by
          show (!goodWord w) = true
          cases hgw : goodWord w
          · rfl
          · exact absurd hgw hg⟩
        exact va_Nw.use (zBad_tab w hw9) (hX.2.1 w hw9)
    · refine ⟨(), trivial, ⟨rfl, hP1.kept (fun j q hq => hk1 q.1 (hP1 j q hq).lt)⟩, Nat.le_trans hS1.1 hz1, fun q h1 h2 => (hk1 q (Nat.lt_of_lt_of_le h1 hS1.1)).trans (hS1.2.1 q h1 h2)⟩
  refine lv_aload_n hx hb dX6_token_0 rfl (lv_at hl 0 rfl) ?_
  obtain ⟨Cn, Tf, Nf, ref, g1, g2, g3, g4, g5⟩ := zf_X6_44
  refine va_get (D := zD G) (C := Cn) (T := Tf) (N := Nf) (ref := ref) hx hb hts0 g2 hown hK hP 0 (zw_at (G := G) (σ := σ) (s := .inl (8, [some 1, some 2, some 3, some 4, some 5, some 6, some 7, none, none, none])) rfl) g1 _ g3 (hts0 _ g4) (fun x hx => by rw [g5]; exact hx) (zfs_at (G := G) (σ := σ) (i := 0) (ks := [some 1, some 2, some 3, some 4, some 5, some 6, some 7, none, none, none]) (j := 5) rfl) dX6_token_1 ?_
  refine lv_iload_n hx hb dX6_token_4 rfl (lv_at hl 1 rfl) ?_
  refine g_callV mX5_has [.int (zI i)] (rest := []) (nL := 3) (own := RX6) ⟨hx, hb, hml, hown, htsT⟩ zTs_0 hK hP hD hS hA hR zk_X5_has zl_X6_140 ⟨Nat.le_of_ble_eq_true rfl, Nat.le_of_ble_eq_true rfl⟩ (i := 6) rfl rfl (Nat.le_of_ble_eq_true rfl) (Nat.le_of_ble_eq_true rfl) hl.1 (Nat.zero_le _) (Nat.zero_le _) dX6_token_5 ?_
  refine M_X5_has i hi (fun q1 q2 => ?_) (fun q => ?_)
  · intro H1 locs1 hR1 hP1 hS1 hz1 hk1
    refine lv_if_eq (tgt := 21) hx hb dX6_token_8 (by decide) (fun q => absurd q (by decide +kernel)) (fun _ => ?_)
    refine lv_iload_n hx hb dX6_token_11 rfl (lv_at hl 2 rfl) ?_
    refine lv_if_lt (tgt := 21) hx hb dX6_token_12 (by decide) (fun _ => key H1 locs1 hP1 hS1) (fun c12 => ?_)
    rw [zI_lt0 hk] at c12
    refine lv_iload_n hx hb dX6_token_15 rfl (lv_at hl 2 rfl) ?_
    refine lv_bipush (v := zI 6) hx hb dX6_token_16 (by decide +kernel) ?_
    refine lv_icmp_lt (tgt := 31) hx hb dX6_token_18 (by decide) (fun c18 => ?_) (fun _ => key H1 locs1 hP1 hS1)
    rw [zI_lt hk (by omega)] at c18
    exact absurd ⟨q1, q2, by omega, c18⟩ hbad
  · intro H1 locs1 hR1 hP1 hS1 hz1 hk1
    exact lv_if_eq (tgt := 21) hx hb dX6_token_8 (by decide) (fun _ => key H1 locs1 hP1 hS1) (fun q => absurd rfl q)

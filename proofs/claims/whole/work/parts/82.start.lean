def zSC (p : Program) (G : zG) (s : State) (m : MethodId) (meth : Method) (c : Code) (b L : Nat) (xs : Nat → Int32) : Prop := (p.tables.exec = Jvm.exec ∧ c.code = code ∧ meth.sig.returnType = ret ∧ c.maxLocals = 7 ∧ s.vm.findClass RL = some m.cls ∧ (∀ w ∈ lw_tbl, w.before #[.ref b] s = true) ∧ va_X b L xs s s.heap ∧ b < s.heap.size ∧ meth.locks = false) ∧ va_K (zD G) vwCl (zT G) s ∧ va_AO RX1 s
def zS0 (p : Program) (G : zG) (e : Env) (s : State) (m : MethodId) (below : List Frame) (meth : Method) (c : Code) (b : Nat) (kc ks pc : Nat) (lv : List (Option Value)) (st : List Value) (ws : va_W) : Prop :=
  ∀ (H : Heap) (locs : List Loc) (ls : Array Slot), va_P (zD G) vwCl ws H → va_D (zOvr s) ws → va_S (zOvr s) s.heap H locs → lv_has ls 7 (zlv 0 lv) →
    W p G.1 e room_1 s m #[Value.ref b] below meth c H locs kc ks (lw_Z below #[Value.ref b] s) (F0 m pc ls st)
section zSs
variable {p : Program} {G : zG} {e : Env} {s : State} {m : MethodId} {below : List Frame} {meth : Method} {c : Code} {b L : Nat} {xs : Nat → Int32}
variable {kc ks pc : Nat} {lv : List (Option Value)} {st : List Value} {ws : va_W}
theorem s_ws {ws' : va_W} (e9 : ws = ws') (h : zS0 p G e s m below meth c b kc ks pc lv st ws') : zS0 p G e s m below meth c b kc ks pc lv st ws := by rw [e9]; exact h
theorem s_iconst (C : zSC p G s m meth c b L xs) {n : Int} (a : Int) (hd : decode code pc = .ok (.iconst n, 1)) (hv : Int32.ofInt n = zI a) (kk : zS0 p G e s m below meth c b kc ks (pc + 1) lv (.int (zI a) :: st) ws) : zS0 p G e s m below meth c b kc ks pc lv st ws := by
  intro H locs ls hP hD hS hl
  exact lv_iconst C.1.1 C.1.2.1 hd hv (kk H locs ls hP hD hS hl)
theorem s_dup (C : zSC p G s m meth c b L xs) {x : Nat} (hd : decode code pc = .ok (.dup, 1)) (kk : zS0 p G e s m below meth c b kc ks (pc + 1) lv (.ref x :: .ref x :: st) ws) : zS0 p G e s m below meth c b kc ks pc lv (.ref x :: st) ws := by
  intro H locs ls hP hD hS hl
  exact lv_dup C.1.1 C.1.2.1 hd rfl (kk H locs ls hP hD hS hl)
theorem s_astore (C : zSC p G s m meth c b L xs) {q : Fin 4} {i x : Nat} (hd : decode code pc = .ok (.astore_n q, 1)) (hi : (q : Nat) = i) (hil : i < lv.length) (hin : i < 7) (hp : zpv lv i) (kk : zS0 p G e s m below meth c b kc ks (pc + 1) (lv.set i (some (.ref x))) st ws) : zS0 p G e s m below meth c b kc ks pc lv (.ref x :: st) ws := by
  intro H locs ls hP hD hS hl
  exact lv_astore_n C.1.1 C.1.2.1 hd hi hl hin rfl (fun ls1 hl1 => kk H locs ls1 hP hD hS (zlv_set hil hp hl1))
theorem s_istore (C : zSC p G s m meth c b L xs) {i : Nat} {x : Int32} (hd : decode code pc = .ok (.istore i, 2)) (hil : i < lv.length) (hin : i < 7) (hp : zpv lv i) (kk : zS0 p G e s m below meth c b kc ks (pc + 2) (lv.set i (some (.int x))) st ws) : zS0 p G e s m below meth c b kc ks pc lv (.int x :: st) ws := by
  intro H locs ls hP hD hS hl
  exact lv_istore C.1.1 C.1.2.1 hd hl hin rfl (fun ls1 hl1 => kk H locs ls1 hP hD hS (zlv_set hil hp hl1))
theorem s_new (C : zSC p G s m meth c b L xs) {index ci N : Nat} {fs : List Value} (hd : decode code pc = .ok (.new index, 3)) (hf : zNew RL index ci N fs) (hc : kc + 1 ≤ 600384) (hs : ks + N ≤ 7286249) (kk : ∀ q, zS0 p G e s m below meth c b (kc + 1) (ks + N) (pc + 3) lv (.ref q :: st) (ws ++ [(q, .inr (ci, fs))])) : zS0 p G e s m below meth c b kc ks pc lv st ws := by
  intro H locs ls hP hD hS hl
  have hts := C.1.2.2.2.2.2.1
  obtain ⟨Cn, Tf, tyf, h1, h2, h3, h4, h5, h6, h7⟩ := hf
  exact va_new (D := zD G) (own := RL) (C := Cn) (T := Tf) (N := N) (Ts := lw_tbl) C.1.1 C.1.2.1 hts (fun w hw => wsL_law_in0 w (h2 w hw)) tyf h3 C.1.2.2.2.2.1 (hts _ (wsL_law_in0 _ h4)) (hts _ (wsL_law_in0 _ h5)) (hts _ (wsL_law_in0 _ h6)) C.2.1 hP hD hS (fun q h => h) h1 h7 hc hs hd (fun q H1 hP1 hD1 hS1 => kk q H1 _ ls hP1 hD1 hS1 hl)
theorem s_newJ (C : zSC p G s m meth c b L xs) (hd : decode code pc = .ok (.newarray .long, 2)) (hc : kc + 1 ≤ 600384) (hs : ks + 1 ≤ 7286249) (kk : ∀ q cA, va_K (zD G) vwCl (zT G ++ [(cA, .long)]) s → zS0 p G e s m below meth c b (kc + 1) (ks + 1) (pc + 2) lv (.ref q :: st) (ws ++ [(q, .inl (cA, 1, .inr (.inl fun _ => 0)))])) : zS0 p G e s m below meth c b kc ks pc lv (.int (zI 1) :: st) ws := by
  intro H locs ls hP hD hS hl
  have hts := C.1.2.2.2.2.2.1
  exact va_newa (D := zD G) (atype := .long) (ty := .long) (N' := 1) (a0 := (1, .inr (.inl fun _ => 0))) C.1.1 C.1.2.1 (hts _ (wsL_law_in0 _ (wr_1 _ (List.mem_of_getElem? (i := 6) rfl)))) rfl C.2.1 hP hD hS (fun q h => h) (fun cA => rfl) (by decide) (by decide) (by decide) hc hs hd (fun q cA H1 hK1 hP1 hD1 hS1 => kk q cA hK1 H1 _ ls hP1 hD1 hS1 hl)
theorem s_init (C : zSC p G s m meth c b L xs) {idx h0 : Nat} {o : va_E} {wr : va_W} (j : zM) (hd : decode code pc = .ok (.invokespecial idx, 3)) (hj : zcalI j) (hml : Cond.methodLink RL idx j.1 ∈ wsL_law0) (hrm : j.2.2.2.2.1 + 1 ≤ room_1.frames ∧ 8 + (j.2.2.1 + 11) + j.2.2.2.2.2.1 ≤ room_1.locals) (hlen : (lg_sl [.ref h0]).length ≤ j.2.2.1) (hcat : (st.map fun v => v.category).sum ≤ 8) (hc : kc + j.2.2.2.2.2.2.1 ≤ 600384) (hs : ks + j.2.2.2.2.2.2.2 ≤ 7286249)
    (kk : zN G j 0 0 0 (zini j.2.2.1 [.ref h0]) [] [(h0, o)] (fun w1 => zS0 p G e s m below meth c b (kc + j.2.2.2.2.2.2.1) (ks + j.2.2.2.2.2.2.2) (pc + 3) lv st (wr ++ w1))) : zS0 p G e s m below meth c b kc ks pc lv (.ref h0 :: st) (wr ++ [(h0, o)]) := by
  intro H locs ls hP hD hS hl
  have hts := C.1.2.2.2.2.2.1
  obtain ⟨⟨g1, g2⟩, g3, g4, g5, g6, g7⟩ := hj
  have hM := n_met j H.size g4 g6 hlen kk
  have hgood : GoodIn lw_tbl (zws j) := fun w hw => by
    have hw' : w ∈ wsL_law0 := by
      rcases List.mem_cons.mp hw with rfl | h
      · rw [g7]; exact g2
      · exact h
    exact ⟨wsL_law_in0 _ hw', z_goodw hw'⟩
  have hat : (wr ++ [(h0, o)])[wr.length]? = some (h0, o) := by rw [List.getElem?_append_right (Nat.le_refl _), Nat.sub_self]; rfl
  have hPc : va_P (zD G) vwCl [(h0, o)] H := fun i q hq => by
    cases i with
    | zero => cases hq; exact hP _ _ hat
    | succ i => cases hq
  have hDc : va_D (fun _ => True) [(h0, o)] := ⟨fun i j p q h1 h2 _ => by
      have a1 := (List.getElem?_eq_some_iff.mp h1).1
      have a2 := (List.getElem?_eq_some_iff.mp h2).1
      simp at a1 a2; omega, fun _ _ _ => trivial⟩
  have cb := cwI (own := RL) (index := idx) (R := room_1) (rm := zrm j) (mc := j.2.2.2.2.2.2.1) (ms := j.2.2.2.2.2.2.2) (y := j.1) (bytes := j.2.1) (maxL := j.2.2.1) 0 hts hgood (by rw [zws, g7]) rfl rfl (hts _ (wsL_law_in0 _ g1)) (hts _ (wsL_law_in0 _ hml)) (hts _ (wsL_law_in0 _ g5)) g6 g3 hrm
  have hrun := va_runI (As := []) (rest := st) (own := RL) (e := e) (below := below) (meth := meth) (H := H) (locs := locs) (cells := kc) (slots := ks) (g := F0 m pc ls (.ref h0 :: st)) ⟨C.1.1, C.1.2.1, C.1.2.2.2.1, C.1.2.2.2.2.1, hts⟩ hM cb ⟨zpcN_blind, fun U hU hW => ⟨rfl, by rw [hU], by rw [hU]; exact hPc, ⟨va_K.moved hW.alike C.2.1, va_AO.moved hW.alike C.2.2⟩, hDc⟩⟩ rfl rfl hl.1 rfl (lv_room hcat) hd ⟨hc, hs⟩
  have h0lt : h0 < H.size := (hP _ _ hat).lt
  have hA1 : ∀ q, va_A [(h0, o)] H.size q → zOvr s q := by
    rintro q (⟨i, e', he⟩ | h)
    · cases i with
      | zero => cases he; exact hD.2 _ _ hat
      | succ i => cases he
    · exact Nat.le_trans hS.1 h
  intro T hT X
  obtain ⟨v, st₀, t, T', L9, e0, X', hL, e1, e2, ⟨⟨w1, hv, hp, hP', hD'⟩, hz, hk⟩, stp⟩ := hrun T hT X
  cases hv
  rw [e0] at hz hk
  have hkp : ∀ (i : Nat) (q : Nat × va_E), wr[i]? = some q → t.heap[q.1]? = H[q.1]? ∧ q.1 < H.size ∧ q.1 ≠ h0 := fun i q hq => by
    have hi : i < wr.length := (List.getElem?_eq_some_iff.mp hq).1
    have hq' : (wr ++ [(h0, o)])[i]? = some q := by rw [List.getElem?_append_left hi]; exact hq
    have hlt : q.1 < H.size := (hP _ _ hq').lt
    have hne : q.1 ≠ h0 := fun e => by have := hD.1 _ _ _ _ hq' hat e; omega
    refine ⟨hk q.1 hlt ?_, hlt, hne⟩
    rintro (⟨i', e', he⟩ | h)
    · cases i' with
      | zero => cases he; exact hne rfl
      | succ i' => cases he
    · omega
  have hPn : va_P (zD G) vwCl (wr ++ w1) T'.heap := by
    rw [e1]
    refine va_P.app (fun i q hq => ?_) hP'
    have hi : i < wr.length := (List.getElem?_eq_some_iff.mp hq).1
    have hq' : (wr ++ [(h0, o)])[i]? = some q := by rw [List.getElem?_append_left hi]; exact hq
    exact (hP _ _ hq').kept (hkp i q hq).1
  have hDn : va_D (zOvr s) (wr ++ w1) := by
    refine va_D.app ⟨fun i j p q h1 h2 he => ?_, fun i q h1 => ?_⟩ (hD'.weaken (fun i q h1 h2 => hA1 _ h2)) (fun i j p q h1 h2 he => ?_)
    · have hi : i < wr.length := (List.getElem?_eq_some_iff.mp h1).1
      have hj : j < wr.length := (List.getElem?_eq_some_iff.mp h2).1
      exact hD.1 i j p q (by rw [List.getElem?_append_left hi]; exact h1) (by rw [List.getElem?_append_left hj]; exact h2) he
    · have hi : i < wr.length := (List.getElem?_eq_some_iff.mp h1).1
      exact hD.2 i q (by rw [List.getElem?_append_left hi]; exact h1)
    · have g := hkp i p h1
      rcases hD'.2 j q h2 with ⟨i', e', he'⟩ | h
      · cases i' with
        | zero => cases he'; exact g.2.2 he
        | succ i' => cases he'
      · omega
  obtain ⟨t2, a1, b1⟩ := hp T'.heap (locs ++ L9) ls hPn hDn
    ⟨Nat.le_trans hS.1 (by rw [e1]; exact hz), fun q h1 h2 => by rw [e1, hk q (Nat.lt_of_lt_of_le h1 hS.1) (fun z => h2 (hA1 q z))]; exact hS.2.1 q h1 h2, fun q hq => by
      rcases List.mem_append.mp hq with h | h
      · exact hS.2.2 q h
      · exact hA1 _ (hL q h)⟩ hl T' rfl X'
  exact ⟨t2, stp t2 a1, b1⟩
theorem zD_split {A : Nat → Prop} {W6 Wm : va_W} {o : Nat × va_E} (h : va_D A ((W6 ++ Wm) ++ [o])) : va_D A W6 ∧ va_D A Wm ∧ (∀ (i j : Nat) (q r : Nat × va_E), W6[i]? = some q → Wm[j]? = some r → q.1 ≠ r.1) ∧ (∀ (i : Nat) (q : Nat × va_E), W6[i]? = some q → q.1 ≠ o.1) ∧ (∀ (i : Nat) (q : Nat × va_E), Wm[i]? = some q → q.1 ≠ o.1) ∧ A o.1 := by
  have a6 : ∀ (i : Nat) (q : Nat × va_E), W6[i]? = some q → i < W6.length ∧ ((W6 ++ Wm) ++ [o])[i]? = some q := fun i q h1 => by
    have hi : i < W6.length := (List.getElem?_eq_some_iff.mp h1).1
    exact ⟨hi, by rw [List.getElem?_append_left (by rw [List.length_append]; omega), List.getElem?_append_left hi]; exact h1⟩
  have am : ∀ (i : Nat) (q : Nat × va_E), Wm[i]? = some q → i < Wm.length ∧ ((W6 ++ Wm) ++ [o])[W6.length + i]? = some q := fun i q h1 => by
    have hi : i < Wm.length := (List.getElem?_eq_some_iff.mp h1).1
    exact ⟨hi, by rw [List.getElem?_append_left (by rw [List.length_append]; omega), List.getElem?_append_right (Nat.le_add_right _ _), Nat.add_sub_cancel_left]; exact h1⟩
  have ao : ((W6 ++ Wm) ++ [o])[W6.length + Wm.length]? = some o := by rw [List.getElem?_append_right (by rw [List.length_append]; exact Nat.le_refl _), List.length_append, Nat.sub_self]; rfl
  refine ⟨⟨fun i j q r h1 h2 he => h.1 i j q r (a6 i q h1).2 (a6 j r h2).2 he, fun i q h1 => h.2 i q (a6 i q h1).2⟩, ⟨fun i j q r h1 h2 he => ?_, fun i q h1 => h.2 _ q (am i q h1).2⟩, fun i j q r h1 h2 he => ?_, fun i q h1 he => ?_, fun i q h1 he => ?_, h.2 _ o ao⟩
  · have := h.1 _ _ q r (am i q h1).2 (am j r h2).2 he
    omega
  · have := h.1 _ _ q r (a6 i q h1).2 (am j r h2).2 he
    have := (a6 i q h1).1
    omega
  · have := h.1 _ _ q o (a6 i q h1).2 ao he
    have := (a6 i q h1).1
    omega
  · have := h.1 _ _ q o (am i q h1).2 ao he
    have := (am i q h1).1
    omega
theorem zD_one {A : Nat → Prop} {sh : List zSh} {G9 : zG} {σ0 : zSt} (h : va_D A (zw G9 sh σ0)) (σ : zSt) : va_D A (zw G9 sh σ) := ⟨fun i j q r h1 h2 he => by
    obtain ⟨e1, g1⟩ := zw_adr (σ := σ0) h1
    obtain ⟨e2, g2⟩ := zw_adr (σ := σ0) h2
    exact h.1 i j _ _ g1 g2 he, fun i q h1 => by
    obtain ⟨e1, g1⟩ := zw_adr (σ := σ0) h1
    exact h.2 i (q.1, e1) g1⟩
theorem s_toU (C : zSC p G s m meth c b L xs) {sa oa : Nat} {ac am : Nat → Nat} {cL : ClassId} {W6 : va_W} {is : List Nat} (hK : va_K (zD G) vwCl (zT G ++ [(cL, .long)]) s) (hX : zXs sa (zOvr s) s s.heap) (hst : G.1.stackTraces = false) (hn : va_nd is = true) (hmap : is.map (fun i => W6[i]?) = (zw (zGa G ac) shC zC0).map some) (hfm : is.filterMap (fun i => W6[i]?) = zw (zGa G ac) shC zC0)
    (kk : zUC p G s m meth c b L sa xs ac am oa cL → zU p G e s m below meth c b ac am oa cL kc ks pc lv st zC0 zM0 (fun _ => 0)) : zS0 p G e s m below meth c b kc ks pc lv st ((W6 ++ zw (zGa G am) shM zM0) ++ [(oa, .inl (cL, 1, .inr (.inl fun _ => 0)))]) := by
  intro H locs ls hP hD hS hl
  obtain ⟨d1, d2, d3, d4, d5, d6⟩ := zD_split hD
  have dC := d1.sub is hn hmap
  have dA : va_D (fun a => ∃ (i : Nat) (q : Nat × va_E), W6[i]? = some q ∧ q.1 = a) W6 := ⟨d1.1, fun i q h1 => ⟨i, q, h1, rfl⟩⟩
  have dB := (dA.sub is hn hmap).2
  have p6 : va_P (zD G) vwCl W6 H := fun i q h1 => hP i q (by
    have hi : i < W6.length := (List.getElem?_eq_some_iff.mp h1).1
    rw [List.getElem?_append_left (by rw [List.length_append]; omega), List.getElem?_append_left hi]; exact h1)
  have pm : va_P (zD G) vwCl (zw (zGa G am) shM zM0) H := fun i q h1 => hP (W6.length + i) q (by
    have hi := (List.getElem?_eq_some_iff.mp h1).1
    rw [List.getElem?_append_left (by rw [List.length_append]; omega), List.getElem?_append_right (Nat.le_add_right _ _), Nat.add_sub_cancel_left]; exact h1)
  have po : va_P (zD G) vwCl [(oa, .inl (cL, 1, .inr (.inl fun _ => 0)))] H := fun i q h1 => by
    cases i with
    | zero =>
      cases h1
      exact hP (W6 ++ zw (zGa G am) shM zM0).length _ (by rw [List.getElem?_append_right (Nat.le_refl _), Nat.sub_self]; rfl)
    | succ i => cases h1
  have pc0 := p6.sub is hfm
  have hne : ∀ (σ : zSt) (i : Nat) (q : Nat × va_E), (zw (zGa G ac) shC σ)[i]? = some q → q.1 ≠ oa := fun σ i q h1 => by
    obtain ⟨e1, g1⟩ := zw_adr (σ := zC0) h1
    obtain ⟨i', q', g2, g3⟩ := dB i _ g1
    exact fun he => d4 i' q' g2 (g3.trans he)
  have h1L : ∀ (σ : zSt) (f : Nat → Int64), va_D (zOvr s) (zLw (zGa G ac) cL oa σ f) := fun σ f => va_D.app (zD_one dC σ) (show va_D (zOvr s) [(oa, (.inl (cL, 1, .inr (.inl f)) : va_E))] from ⟨fun i j q r h1 h2 _ => by
      have a1 := (List.getElem?_eq_some_iff.mp h1).1
      have a2 := (List.getElem?_eq_some_iff.mp h2).1
      simp at a1 a2; omega, fun i q h1 => by
      cases i with
      | zero => cases h1; exact d6
      | succ i => cases h1⟩) (fun i j q r h1 h2 => by
      cases j with
      | zero => cases h2; exact hne σ i q h1
      | succ j => cases h2)
  refine kk ⟨C.1, hK, h1L, zD_one d2, fun σ μ f i j q r h1 h2 => ?_, hX, hst⟩ H locs ls zC0_R zM0_R (zLw_P.mpr ⟨pc0, po⟩) pm hS hl
  obtain ⟨e2, g2⟩ := zw_adr (σ := zM0) h2
  by_cases hi : i < (zw (zGa G ac) shC σ).length
  · rw [zLw, List.getElem?_append_left hi] at h1
    obtain ⟨e1, g1⟩ := zw_adr (σ := zC0) h1
    obtain ⟨i', q', g3, g4⟩ := dB i _ g1
    exact fun he => d3 i' j q' _ g3 g2 (g4.trans he)
  · rw [zLw, List.getElem?_append_right (Nat.not_lt.mp hi)] at h1
    cases hj : i - (zw (zGa G ac) shC σ).length with
    | zero =>
      rw [hj] at h1
      cases h1
      exact fun he => d5 j _ g2 he.symm
    | succ k => rw [hj] at h1; cases h1
theorem sn6 : zNew RL 8 8 10 [.null, .null, .null, .null, .null, .null, .null, .int (zI 0), .int (zI 0), .int (zI 0)] := ⟨RX6, TX6, tyX6, rfl, wi_X6, tyX6_ok, (wr_1 _ (List.mem_of_getElem? (i := 0) rfl)), (wr_1 _ (List.mem_of_getElem? (i := 1) rfl)), (wr_1 _ (List.mem_of_getElem? (i := 2) rfl)), fun j hj => by rcases (show j = 0 ∨ j = 1 ∨ j = 2 ∨ j = 3 ∨ j = 4 ∨ j = 5 ∨ j = 6 ∨ j = 7 ∨ j = 8 ∨ j = 9 by omega) with rfl | rfl | rfl | rfl | rfl | rfl | rfl | rfl | rfl | rfl <;> rfl⟩
theorem sn7 : zNew RL 16 9 30 [.int (zI 0), .null, .null, .int (zI 0), .null, .int (zI 0), .int (zI 0), .null, .null, .null, .int (zI 0), .null, .null, .null, .null, .null, .null, .null, .int (zI 0), .int (zI 0), .null, .int (zI 0), .null, .null, .int (zI 0), .null, .int (zI 0), .int (zI 0), .null, .int (zI 0)] := ⟨RX7, TX7, tyX7, rfl, wi_X7, tyX7_ok, (wr_1 _ (List.mem_of_getElem? (i := 3) rfl)), (wr_1 _ (List.mem_of_getElem? (i := 4) rfl)), (wr_1 _ (List.mem_of_getElem? (i := 5) rfl)), fun j hj => by rcases (show j = 0 ∨ j = 1 ∨ j = 2 ∨ j = 3 ∨ j = 4 ∨ j = 5 ∨ j = 6 ∨ j = 7 ∨ j = 8 ∨ j = 9 ∨ j = 10 ∨ j = 11 ∨ j = 12 ∨ j = 13 ∨ j = 14 ∨ j = 15 ∨ j = 16 ∨ j = 17 ∨ j = 18 ∨ j = 19 ∨ j = 20 ∨ j = 21 ∨ j = 22 ∨ j = 23 ∨ j = 24 ∨ j = 25 ∨ j = 26 ∨ j = 27 ∨ j = 28 ∨ j = 29 by omega) with rfl | rfl | rfl | rfl | rfl | rfl | rfl | rfl | rfl | rfl | rfl | rfl | rfl | rfl | rfl | rfl | rfl | rfl | rfl | rfl | rfl | rfl | rfl | rfl | rfl | rfl | rfl | rfl | rfl | rfl <;> rfl⟩
set_option maxHeartbeats 4000000 in
set_option maxRecDepth 100000 in
theorem s_walk (C : zSC p G s m meth c b L xs) (hL : L ≤ 320) {sa : Nat} (hX : zXs sa (zOvr s) s s.heap) (hst : G.1.stackTraces = false) : zS0 p G e s m below meth c b 0 0 0 (zini 7 [.ref b]) [] [] := by
  refine s_new C dL_law_0 sn6 (Nat.le_of_ble_eq_true rfl) (Nat.le_of_ble_eq_true rfl) (fun h6 => ?_)
  refine s_dup C dL_law_3 ?_
  refine s_init C (wr := []) mX6_init dL_law_4 zk_X6_init (wr_1 _ (List.mem_of_getElem? (i := 8) rfl)) ⟨Nat.le_of_ble_eq_true rfl, Nat.le_of_ble_eq_true rfl⟩ (Nat.le_of_ble_eq_true rfl) (Nat.le_of_ble_eq_true rfl) (Nat.le_of_ble_eq_true rfl) (Nat.le_of_ble_eq_true rfl) (c_X6_init h6 (fun q0 q1 q2 q3 q4 q5 q6 q7 q8 q9 q10 q11 q12 q13 q14 q15 q16 q17 q18 q19 q20 q21 q22 q23 q24 q25 q26 q27 q28 => ?_))
  show zS0 p G e s m below meth c b 30 45588 7 [some (.ref b), none, none, none, none, none, none] [.ref h6] _
  refine s_astore C dL_law_7 rfl (Nat.le_of_ble_eq_true rfl) (Nat.le_of_ble_eq_true rfl) (zpvS (i := 0) rfl rfl) ?_
  refine s_new C dL_law_8 sn7 (Nat.le_of_ble_eq_true rfl) (Nat.le_of_ble_eq_true rfl) (fun h7 => ?_)
  refine s_dup C dL_law_11 ?_
  refine s_init C mX7_init dL_law_12 zk_X7_init (wr_4 _ (List.mem_of_getElem? (i := 9) rfl)) ⟨Nat.le_of_ble_eq_true rfl, Nat.le_of_ble_eq_true rfl⟩ (Nat.le_of_ble_eq_true rfl) (Nat.le_of_ble_eq_true rfl) (Nat.le_of_ble_eq_true rfl) (Nat.le_of_ble_eq_true rfl) (c_X7_init h7 (fun k0 k1 k2 k3 k4 k5 k6 k7 k8 k9 k10 k11 k12 k13 k14 k15 k16 k17 => ?_))
  show zS0 p G e s m below meth c b 49 91192 15 [some (.ref b), some (.ref h6), none, none, none, none, none] [.ref h7] _
  refine s_astore C dL_law_15 rfl (Nat.le_of_ble_eq_true rfl) (Nat.le_of_ble_eq_true rfl) (zpvS (i := 1) rfl rfl) ?_
  refine s_iconst C 1 dL_law_16 rfl ?_
  refine s_newJ C dL_law_17 (Nat.le_of_ble_eq_true rfl) (Nat.le_of_ble_eq_true rfl) (fun oa cL hK => ?_)
  refine s_astore C dL_law_19 rfl (Nat.le_of_ble_eq_true rfl) (Nat.le_of_ble_eq_true rfl) (zpvS (i := 2) rfl rfl) ?_
  refine s_iconst C 0 dL_law_20 rfl ?_
  refine s_istore C dL_law_21 (Nat.le_of_ble_eq_true rfl) (Nat.le_of_ble_eq_true rfl) (zpvS (i := 3) rfl rfl) ?_
  refine s_toU C (sa := sa) (oa := oa) (ac := (fun i => [h6, q0, q3, q4, q8, q21, q25, q27, q1, q2, q5, q6, q7, q22, q23, q24, q26, q28, q9, q11, q13, q15, q17, q19, q10, q12, q14, q16, q18, q20].getD i 0)) (am := (fun i => [h7, k0, k1, k2, k3, k4, k5, k6, k7, k8, k9, k10, k11, k12, k13, k14, k15, k16, k17].getD i 0)) (cL := cL) (is := zC0_p) hK hX hst rfl (by rw [zC0_w]; rfl) (by rw [zC0_w]; rfl) (fun CU => ?_)
  exact u_loop CU hL (c0 := 50) (s0 := 91193) (by decide) (by decide) 64 0 50 91193 0 0 zC0 zM0 (fun _ => 0) none none rfl rfl rfl rfl rfl zRel_0 zInv_0
end zSs
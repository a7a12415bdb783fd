/-! the reference: two of its states are alike, but for thrown, sign, width, wordLength -/
def zJ (i j : Nat) : Prop := i = 0 ∧ (j = 0 ∨ j = 26 ∨ j = 27 ∨ j = 29)
def eqM (a b : zSt) : Prop := (∀ i j, ¬ zJ i j → a.1 i j = b.1 i j) ∧ ∀ i, a.2 i = b.2 i
theorem eqM.rfl' {a : zSt} : eqM a a := ⟨fun _ _ _ => rfl, fun _ => rfl⟩
theorem eqM.symm {a b : zSt} (h : eqM a b) : eqM b a := ⟨fun i j q => (h.1 i j q).symm, fun i => (h.2 i).symm⟩
theorem eqM.trans {a b c : zSt} (h : eqM a b) (h' : eqM b c) : eqM a c := ⟨fun i j q => (h.1 i j q).trans (h'.1 i j q), fun i => (h.2 i).trans (h'.2 i)⟩
theorem eqM.jF {a b : zSt} {i j : Nat} {x : Int} (hj : zJ i j) (h : eqM a b) : eqM (zsF a i j x) b := ⟨fun p q hq => (zsF_ne (fun e => hq (by rw [e.1, e.2]; exact hj))).trans (h.1 p q hq), h.2⟩
theorem eqM.F {a b : zSt} {i j : Nat} {x : Int} (h : eqM a b) : eqM (zsF a i j x) (zsF b i j x) := ⟨fun p q hq => by
  show (if p = i ∧ q = j then x else a.1 p q) = (if p = i ∧ q = j then x else b.1 p q)
  rw [h.1 p q hq], h.2⟩
theorem eqM.A {a b : zSt} {i : Nat} {z x : Int} (h : eqM a b) : eqM (zsA a i z x) (zsA b i z x) := ⟨h.1, fun p => by
  funext q
  show (if p = i ∧ q = z then x else a.2 p q) = (if p = i ∧ q = z then x else b.2 p q)
  rw [h.2 p]⟩
theorem eqM.B {a b : zSt} {c : Nat} {d n : Int} {g : Int → Int} (h : eqM a b) : eqM (zsB a c d n g) (zsB b c d n g) := ⟨h.1, fun p => by
  funext q
  show (if p = c ∧ d ≤ q ∧ q < d + n then g (q - d) else a.2 p q) = (if p = c ∧ d ≤ q ∧ q < d + n then g (q - d) else b.2 p q)
  rw [h.2 p]⟩
theorem eqM.S {a b : zSt} {c : Nat} {s n x : Int} (h : eqM a b) : eqM (zsS a c s n x) (zsS b c s n x) := ⟨h.1, fun p => by
  funext q
  show (if p = c ∧ s ≤ q ∧ (q - s) % 256 = 0 ∧ q < s + 256 * n then x else a.2 p q) = (if p = c ∧ s ≤ q ∧ (q - s) % 256 = 0 ∧ q < s + 256 * n then x else b.2 p q)
  rw [h.2 p]⟩
theorem zPq {σ : zSt} {Post : Option Value → zSt → Prop} {a b : Int} {s : zSt} (h : ∀ σ', eqM σ' s → Post (some (.int (zI b))) σ') (e : a = b) (hq : eqM σ s) : Post (some (.int (zI a))) σ := by rw [e]; exact h _ hq
/-- what always holds of the reference's state; N bounds what was told and begun -/
def zInv (N : Int) (σ : zSt) : Prop :=
  (0 ≤ σ.1 0 3 ∧ σ.1 0 3 ≤ 20) ∧ (0 ≤ σ.1 0 6 ∧ σ.1 0 6 ≤ 8) ∧ (0 ≤ σ.1 0 10 ∧ σ.1 0 10 ≤ 6) ∧ (0 ≤ σ.1 0 19 ∧ σ.1 0 19 ≤ 600) ∧ (1 ≤ σ.1 0 21 ∧ σ.1 0 21 ≤ 150) ∧ (-1 ≤ σ.1 0 5 ∧ σ.1 0 5 ≤ 255) ∧ (0 ≤ σ.1 0 24 ∧ σ.1 0 24 ≤ N) ∧ (0 ≤ σ.1 0 18 ∧ σ.1 0 18 ≤ N) ∧
  (∀ q, 0 ≤ σ.2 1 q ∧ σ.2 1 q ≤ 15) ∧ (∀ q, 0 ≤ σ.2 2 q ∧ σ.2 2 q ≤ 15) ∧ (∀ q, 0 ≤ σ.2 3 q ∧ σ.2 3 q ≤ 1) ∧ (∀ q, 0 ≤ σ.2 4 q ∧ σ.2 4 q ≤ 30) ∧ (∀ q, 0 ≤ σ.2 5 q ∧ σ.2 5 q ≤ 120) ∧ (∀ q, 0 ≤ σ.2 6 q ∧ σ.2 6 q ≤ 255) ∧ (∀ q, 0 ≤ σ.2 9 q ∧ σ.2 9 q ≤ 255) ∧ (∀ q, 0 ≤ σ.2 16 q ∧ σ.2 16 q ≤ 40) ∧ (∀ q, 0 ≤ σ.2 15 q ∧ σ.2 15 q ≤ 255) ∧ (∀ q, 0 ≤ σ.2 18 q ∧ σ.2 18 q ≤ 255) ∧
  (∀ t, 0 ≤ σ.2 11 t ∧ σ.2 11 t ≤ σ.2 10 t ∧ σ.2 10 t ≤ 121 ∧ -1 ≤ σ.2 12 t ∧ σ.2 12 t ≤ 2 ∧ 0 ≤ σ.2 13 t ∧ σ.2 13 t ≤ 1) ∧
  (∀ t, 0 ≤ t → t < σ.1 0 10 → 0 ≤ σ.2 7 t ∧ σ.2 7 t < σ.1 0 6 ∧ -1 ≤ σ.2 8 t ∧ σ.2 8 t < σ.2 4 (σ.2 7 t)) ∧
  (∀ a b, 0 ≤ b → b < a → a < σ.1 0 21 → ∃ w, 0 ≤ w ∧ w ≤ 40 ∧ zns (σ.2 15) (σ.2 16) (σ.1 0 21) a w ≠ zns (σ.2 15) (σ.2 16) (σ.1 0 21) b w) ∧
  (∀ i, 0 ≤ i → i < σ.1 0 19 → σ.2 14 (i * 6) = 1 → 0 ≤ σ.2 14 (i * 6 + 1) ∧ σ.2 14 (i * 6 + 1) < σ.1 0 21)

set_option maxRecDepth 100000 in
theorem M_X7_isSign {G : zG} {σ : zSt} {Post : Option Value → zSt → Prop} (s : Int) (hs : zR s) (h1 : 0 ≤ s → s < 256 → Post (some (.int (zI 1))) σ) (h0 : s < 0 ∨ 256 ≤ s → Post (some (.int (zI 0))) σ) : zV G shM mX7_isSign 0 (zini 1 [.int (zI s)]) [] σ Post := by
  refine z_rg (fun hR => ?_)
  refine z_lv (lv' := [some (.int (zI s))]) rfl ?_
  refine z_iload_0 dX7_isSign_0 ?_
  refine z_if_lt (tgt := 15) dX7_isSign_1 (by decide) (by omega) (fun c1 => ?_) (fun c1 => ?_)
  · refine z_iconst 0 dX7_isSign_15 rfl ?_
    refine z_zret dX7_isSign_16 rfl (Or.inl rfl) ?_
    first | exact h1 (by omega) (by omega) | exact h0 (by omega)
  · refine z_iload_0 dX7_isSign_4 ?_
    refine z_sipush 256 dX7_isSign_5 (by decide +kernel) ?_
    refine z_icmp_ge (tgt := 15) dX7_isSign_8 (by decide) (by omega) ⟨by decide, by decide⟩ (fun c8 => ?_) (fun c8 => ?_)
    · refine z_iconst 0 dX7_isSign_15 rfl ?_
      refine z_zret dX7_isSign_16 rfl (Or.inl rfl) ?_
      first | exact h1 (by omega) (by omega) | exact h0 (by omega)
    · refine z_iconst 1 dX7_isSign_11 rfl ?_
      refine z_goto (tgt := 16) dX7_isSign_12 (by decide) ?_
      refine z_zret dX7_isSign_16 rfl (Or.inr rfl) ?_
      first | exact h1 (by omega) (by omega) | exact h0 (by omega)

set_option maxRecDepth 100000 in
theorem M_X7_isLow {G : zG} {σ : zSt} {Post : Option Value → zSt → Prop} (s : Int) (hs : zR s) (h1 : 0 ≤ s → s < 128 → Post (some (.int (zI 1))) σ) (h0 : s < 0 ∨ 128 ≤ s → Post (some (.int (zI 0))) σ) : zV G shM mX7_isLow 0 (zini 1 [.int (zI s)]) [] σ Post := by
  refine z_rg (fun hR => ?_)
  refine z_lv (lv' := [some (.int (zI s))]) rfl ?_
  refine z_iload_0 dX7_isLow_0 ?_
  refine z_if_lt (tgt := 15) dX7_isLow_1 (by decide) (by omega) (fun c1 => ?_) (fun c1 => ?_)
  · refine z_iconst 0 dX7_isLow_15 rfl ?_
    refine z_zret dX7_isLow_16 rfl (Or.inl rfl) ?_
    first | exact h1 (by omega) (by omega) | exact h0 (by omega)
  · refine z_iload_0 dX7_isLow_4 ?_
    refine z_sipush 128 dX7_isLow_5 (by decide +kernel) ?_
    refine z_icmp_ge (tgt := 15) dX7_isLow_8 (by decide) (by omega) ⟨by decide, by decide⟩ (fun c8 => ?_) (fun c8 => ?_)
    · refine z_iconst 0 dX7_isLow_15 rfl ?_
      refine z_zret dX7_isLow_16 rfl (Or.inl rfl) ?_
      first | exact h1 (by omega) (by omega) | exact h0 (by omega)
    · refine z_iconst 1 dX7_isLow_11 rfl ?_
      refine z_goto (tgt := 16) dX7_isLow_12 (by decide) ?_
      refine z_zret dX7_isLow_16 rfl (Or.inr rfl) ?_
      first | exact h1 (by omega) (by omega) | exact h0 (by omega)

set_option maxRecDepth 100000 in
theorem M_X7_digit {G : zG} {σ : zSt} {Post : Option Value → zSt → Prop} (c : Int) (hc : zR c) (h : Post (some (.int (zI (zdig c)))) σ) : zV G shM mX7_digit 0 (zini 1 [.int (zI c)]) [] σ Post := by
  refine z_rg (fun hR => ?_)
  refine z_lv (lv' := [some (.int (zI c))]) rfl ?_
  refine z_iload_0 dX7_digit_0 ?_
  refine z_bipush 48 dX7_digit_1 (by decide +kernel) ?_
  refine z_icmp_lt (tgt := 19) dX7_digit_3 (by decide) (by omega) ⟨by decide, by decide⟩ (fun c3 => ?_) (fun c3 => ?_)
  · refine z_iload_0 dX7_digit_19 ?_
    refine z_bipush 97 dX7_digit_20 (by decide +kernel) ?_
    refine z_icmp_lt (tgt := 38) dX7_digit_22 (by decide) (by omega) ⟨by decide, by decide⟩ (fun c22 => ?_) (fun c22 => ?_)
    · refine z_iconst (-1) dX7_digit_38 rfl ?_
      refine z_iret dX7_digit_39 rfl ?_
      exact zPe h (by unfold zdig; split <;> (try split) <;> omega)
    · refine z_iload_0 dX7_digit_25 ?_
      refine z_bipush 102 dX7_digit_26 (by decide +kernel) ?_
      refine z_icmp_gt (tgt := 38) dX7_digit_28 (by decide) (by omega) ⟨by decide, by decide⟩ (fun c28 => ?_) (fun c28 => ?_)
      · refine z_iconst (-1) dX7_digit_38 rfl ?_
        refine z_iret dX7_digit_39 rfl ?_
        exact zPe h (by unfold zdig; split <;> (try split) <;> omega)
      · refine z_iload_0 dX7_digit_31 ?_
        refine z_bipush 87 dX7_digit_32 (by decide +kernel) ?_
        refine z_isub dX7_digit_34 ?_
        refine z_goto (tgt := 39) dX7_digit_35 (by decide) ?_
        refine z_iret dX7_digit_39 rfl ?_
        exact zPe h (by unfold zdig; split <;> (try split) <;> omega)
  · refine z_iload_0 dX7_digit_6 ?_
    refine z_bipush 57 dX7_digit_7 (by decide +kernel) ?_
    refine z_icmp_gt (tgt := 19) dX7_digit_9 (by decide) (by omega) ⟨by decide, by decide⟩ (fun c9 => ?_) (fun c9 => ?_)
    · refine z_iload_0 dX7_digit_19 ?_
      refine z_bipush 97 dX7_digit_20 (by decide +kernel) ?_
      refine z_icmp_lt (tgt := 38) dX7_digit_22 (by decide) (by omega) ⟨by decide, by decide⟩ (fun c22 => ?_) (fun c22 => ?_)
      · refine z_iconst (-1) dX7_digit_38 rfl ?_
        refine z_iret dX7_digit_39 rfl ?_
        exact zPe h (by unfold zdig; split <;> (try split) <;> omega)
      · refine z_iload_0 dX7_digit_25 ?_
        refine z_bipush 102 dX7_digit_26 (by decide +kernel) ?_
        refine z_icmp_gt (tgt := 38) dX7_digit_28 (by decide) (by omega) ⟨by decide, by decide⟩ (fun c28 => ?_) (fun c28 => ?_)
        · refine z_iconst (-1) dX7_digit_38 rfl ?_
          refine z_iret dX7_digit_39 rfl ?_
          exact zPe h (by unfold zdig; split <;> (try split) <;> omega)
        · refine z_iload_0 dX7_digit_31 ?_
          refine z_bipush 87 dX7_digit_32 (by decide +kernel) ?_
          refine z_isub dX7_digit_34 ?_
          refine z_goto (tgt := 39) dX7_digit_35 (by decide) ?_
          refine z_iret dX7_digit_39 rfl ?_
          exact zPe h (by unfold zdig; split <;> (try split) <;> omega)
    · refine z_iload_0 dX7_digit_12 ?_
      refine z_bipush 48 dX7_digit_13 (by decide +kernel) ?_
      refine z_isub dX7_digit_15 ?_
      refine z_goto (tgt := 39) dX7_digit_16 (by decide) ?_
      refine z_iret dX7_digit_39 rfl ?_
      exact zPe h (by unfold zdig; split <;> (try split) <;> omega)

set_option maxRecDepth 100000 in
theorem M_X7_isFile {G : zG} {σ : zSt} {Post : Option Value → zSt → Prop} (f : Int) (hf : zR f) (h1 : 0 ≤ f → f < σ.1 0 6 → Post (some (.int (zI 1))) σ) (h0 : f < 0 ∨ σ.1 0 6 ≤ f → Post (some (.int (zI 0))) σ) : zV G shM mX7_isFile 0 (zini 2 [.ref (zad G 0), .int (zI f)]) [] σ Post := by
  refine z_rg (fun hR => ?_)
  refine z_lv (lv' := [some (.ref (zad G 0)), some (.int (zI f))]) rfl ?_
  refine z_iload_1 dX7_isFile_0 ?_
  refine z_if_lt (tgt := 16) dX7_isFile_1 (by decide) (by omega) (fun c1 => ?_) (fun c1 => ?_)
  · refine z_iconst 0 dX7_isFile_16 rfl ?_
    refine z_zret dX7_isFile_17 rfl (Or.inl rfl) ?_
    first | exact h1 (by omega) (by omega) | exact h0 (by omega)
  · refine z_iload_1 dX7_isFile_4 ?_
    refine z_aload_0 dX7_isFile_5 ?_
    refine z_getI (j := 6) dX7_isFile_6 zf_X7_82 rfl rfl ?_
    have w1 : zR (σ.1 0 6) := hR.1 0 6
    refine z_icmp_ge (tgt := 16) dX7_isFile_9 (by decide) (by omega) (by omega) (fun c9 => ?_) (fun c9 => ?_)
    · refine z_iconst 0 dX7_isFile_16 rfl ?_
      refine z_zret dX7_isFile_17 rfl (Or.inl rfl) ?_
      first | exact h1 (by omega) (by omega) | exact h0 (by omega)
    · refine z_iconst 1 dX7_isFile_12 rfl ?_
      refine z_goto (tgt := 17) dX7_isFile_13 (by decide) ?_
      refine z_zret dX7_isFile_17 rfl (Or.inr rfl) ?_
      first | exact h1 (by omega) (by omega) | exact h0 (by omega)

set_option maxRecDepth 100000 in
theorem M_X7_thrown {G : zG} {σ : zSt} {Post : Option Value → zSt → Prop} {N : Int} (hI : zInv N σ) (hN : N ≤ 2000000000) (h : Post (some (.int (zI (σ.1 0 0)))) σ) : zV G shM mX7_thrown 0 (zini 1 [.ref (zad G 0)]) [] σ Post := by
  refine z_rg (fun hR => ?_)
  refine z_lv (lv' := [some (.ref (zad G 0))]) rfl ?_
  obtain ⟨hgr, hfi, hle, hto, hna, hes, htl, hbg, hca, hsa, hme, hlc, hln, hsg, hrw, hnl, hns, hwd, hlv, hlf, hdi, htk⟩ := hI
  refine z_aload_0 dX7_thrown_0 ?_
  refine z_getI (j := 0) dX7_thrown_1 zf_X7_72 rfl rfl ?_
  have w1 : zR (σ.1 0 0) := hR.1 0 0
  refine z_iret dX7_thrown_4 rfl ?_
  exact h

set_option maxRecDepth 100000 in
theorem L_X7_cat {G : zG} {σ : zSt} {Post : Option Value → zSt → Prop} (s c g : Int) (hR : zRg σ) (hs0 : 0 ≤ s) (hs1 : s < 256) (hc : zR c) (hg : zR g) (hg0 : 0 ≤ σ.1 0 3) (hg1 : σ.1 0 3 ≤ 20) (hgn : g ≠ 0) (h : Post (some (.int (zI 1))) (zsS σ 2 s (σ.1 0 3) c)) : ∀ (m : Nat) (j : Int) (hj0 : 0 ≤ j) (hm : j + m = σ.1 0 3), zV G shM mX7_category 35 [some (.ref (zad G 0)), some (.int (zI s)), some (.int (zI c)), some (.int (zI g)), some (.int (zI j))] [] (zsS σ 2 s j c) Post := by
  intro m
  induction m with
  | zero =>
    intro j hj0 hm
    refine z_iload_4 dX7_category_35 ?_
    refine z_aload_0 dX7_category_37 ?_
    refine z_getI (j := 3) dX7_category_38 zf_X7_79 rfl rfl ?_
    refine z_top (b := σ.1 0 3) zsS_F ?_
    have w1 : zR (σ.1 0 3) := hR.1 0 3
    refine z_icmp_ge (tgt := 68) dX7_category_41 (by decide) (by omega) (by omega) (fun c41 => ?_) (fun c41 => by exfalso; omega)
    refine z_iconst 1 dX7_category_68 rfl ?_
    refine z_iret dX7_category_69 rfl ?_
    have e : j = σ.1 0 3 := by omega
    subst e
    exact h
  | succ m ih =>
    intro j hj0 hm
    refine z_iload_4 dX7_category_35 ?_
    refine z_aload_0 dX7_category_37 ?_
    refine z_getI (j := 3) dX7_category_38 zf_X7_79 rfl rfl ?_
    refine z_top (b := σ.1 0 3) zsS_F ?_
    have w1 : zR (σ.1 0 3) := hR.1 0 3
    refine z_icmp_ge (tgt := 68) dX7_category_41 (by decide) (by omega) (by omega) (fun c41 => by exfalso; omega) (fun c41 => ?_)
    refine z_iload_3 dX7_category_44 ?_
    refine z_if_eq (tgt := 68) dX7_category_45 (by decide) (by omega) (fun c45 => by exfalso; omega) (fun c45 => ?_)
    refine z_aload_0 dX7_category_48 ?_
    refine z_getR (j := 2) dX7_category_49 zf_X7_13 rfl rfl ?_
    refine z_sipush 256 dX7_category_52 (by decide +kernel) ?_
    refine z_iload_4 dX7_category_55 ?_
    refine z_imul dX7_category_57 ?_
    refine z_iload_1 dX7_category_58 ?_
    refine z_iadd dX7_category_59 ?_
    refine z_iload_2 dX7_category_60 ?_
    refine z_iast dX7_category_61 rfl (by decide) (by omega) (by omega) (by omega) ?_
    refine z_iinc_4 dX7_category_62 (Nat.le_of_ble_eq_true rfl) rfl ?_
    refine z_goto (tgt := 35) dX7_category_65 (by decide) ?_
    exact z_st (zsS_S hj0 (by omega)) (ih (j + 1) (by omega) (by omega))

set_option maxRecDepth 100000 in
theorem M_X7_category {G : zG} {σ : zSt} {Post : Option Value → zSt → Prop} {N : Int} (hI : zInv N σ) (hN : N ≤ 2000000000) (s c g : Int) (hs : zR s) (hc : zR c) (hg : zR g) (h2 : ¬ (0 ≤ s ∧ s < 256 ∧ 0 ≤ c ∧ c < 16) → ∀ σ2, eqM σ2 σ → Post (some (.int (zI (-2)))) σ2) (h1 : 0 ≤ s → s < 256 → 0 ≤ c → c < 16 → g ≠ 0 → ∀ σ2, eqM σ2 (zsS (zsA σ 1 s c) 2 s (σ.1 0 3) c) → Post (some (.int (zI 1))) σ2) (h0 : 0 ≤ s → s < 256 → 0 ≤ c → c < 16 → g = 0 → ∀ σ2, eqM σ2 (zsA σ 1 s c) → Post (some (.int (zI 1))) σ2) : zV G shM mX7_category 0 (zini 5 [.ref (zad G 0), .int (zI s), .int (zI c), .int (zI g)]) [] σ Post := by
  refine z_rg (fun hR => ?_)
  refine z_lv (lv' := [some (.ref (zad G 0)), some (.int (zI s)), some (.int (zI c)), some (.int (zI g)), none]) rfl ?_
  obtain ⟨hgr, hfi, hle, hto, hna, hes, htl, hbg, hca, hsa, hme, hlc, hln, hsg, hrw, hnl, hns, hwd, hlv, hlf, hdi, htk⟩ := hI
  refine z_aload_0 dX7_category_0 ?_
  refine z_iconst 0 dX7_category_1 rfl ?_
  refine z_putI (j := 0) dX7_category_2 zp_X7_72 rfl rfl ⟨by decide, by decide⟩ ?_
  refine z_iload_1 dX7_category_5 ?_
  refine z_callS mX7_isSign [.int (zI s)] dX7_category_6 zk_X7_isSign zl_X7_75 ⟨Nat.le_of_ble_eq_true rfl, Nat.le_of_ble_eq_true rfl⟩ (Nat.le_of_ble_eq_true rfl) (Nat.le_of_ble_eq_true rfl) ?_
  refine M_X7_isSign s (by omega) (fun i1 i2 => ?_) (fun i1 => ?_)
  · refine z_b1 ?_
    refine z_if_eq (tgt := 22) dX7_category_9 (by decide) ⟨by decide, by decide⟩ (fun c9 => by exfalso; omega) (fun c9 => ?_)
    refine z_iload_2 dX7_category_12 ?_
    refine z_if_lt (tgt := 22) dX7_category_13 (by decide) (by omega) (fun c13 => ?_) (fun c13 => ?_)
    · refine z_bipush (-2) dX7_category_22 (by decide +kernel) ?_
      refine z_iret dX7_category_24 rfl ?_
      exact zPq (h2 (by omega)) rfl (eqM.jF (by unfold zJ; omega) eqM.rfl')
    · refine z_iload_2 dX7_category_16 ?_
      refine z_bipush 15 dX7_category_17 (by decide +kernel) ?_
      refine z_icmp_le (tgt := 25) dX7_category_19 (by decide) (by omega) ⟨by decide, by decide⟩ (fun c19 => ?_) (fun c19 => ?_)
      · refine z_aload_0 dX7_category_25 ?_
        refine z_getR (j := 1) dX7_category_26 zf_X7_7 rfl rfl ?_
        refine z_iload_1 dX7_category_29 ?_
        refine z_iload_2 dX7_category_30 ?_
        refine z_iast dX7_category_31 rfl (by decide) (by omega) (by omega) (by omega) ?_
        refine z_iconst 0 dX7_category_32 rfl ?_
        refine z_istore_4 dX7_category_33 (Nat.le_of_ble_eq_true rfl) rfl ?_
        rcases Decidable.em (g = 0) with hg9 | hg9
        · refine z_iload_4 dX7_category_35 ?_
          refine z_aload_0 dX7_category_37 ?_
          refine z_getI (j := 3) dX7_category_38 zf_X7_79 rfl rfl ?_
          refine z_top (b := σ.1 0 3) (zsA_F.trans (zsF_ne (by omega))) ?_
          refine z_icmp_ge (tgt := 68) dX7_category_41 (by decide) ⟨by decide, by decide⟩ (by omega) (fun c41 => ?_) (fun c41 => ?_)
          · refine z_iconst 1 dX7_category_68 rfl ?_
            refine z_iret dX7_category_69 rfl ?_
            exact h0 (by omega) (by omega) (by omega) (by omega) hg9 _ (eqM.A (eqM.jF (by unfold zJ; omega) eqM.rfl'))
          · refine z_iload_3 dX7_category_44 ?_
            refine z_if_eq (tgt := 68) dX7_category_45 (by decide) hg (fun c45 => ?_) (fun c45 => absurd hg9 c45)
            refine z_iconst 1 dX7_category_68 rfl ?_
            refine z_iret dX7_category_69 rfl ?_
            exact h0 (by omega) (by omega) (by omega) (by omega) hg9 _ (eqM.A (eqM.jF (by unfold zJ; omega) eqM.rfl'))
        · have e0 : (zsA (zsF σ 0 0 0) 1 s c).1 0 3 = σ.1 0 3 := zsA_F.trans (zsF_ne (by omega))
          refine z_st zsS_0.symm (L_X7_cat s c g (zRg.A (zRg.F hR (by omega)) hc) (by omega) (by omega) hc hg (by omega) (by omega) hg9 ?_ (σ.1 0 3).toNat 0 (by omega) (by omega))
          rw [e0]
          exact h1 (by omega) (by omega) (by omega) (by omega) hg9 _ (eqM.S (eqM.A (eqM.jF (by unfold zJ; omega) eqM.rfl')))
      · refine z_bipush (-2) dX7_category_22 (by decide +kernel) ?_
        refine z_iret dX7_category_24 rfl ?_
        exact zPq (h2 (by omega)) rfl (eqM.jF (by unfold zJ; omega) eqM.rfl')
  · refine z_b1 ?_
    refine z_if_eq (tgt := 22) dX7_category_9 (by decide) ⟨by decide, by decide⟩ (fun c9 => ?_) (fun c9 => by exfalso; omega)
    refine z_bipush (-2) dX7_category_22 (by decide +kernel) ?_
    refine z_iret dX7_category_24 rfl ?_
    exact zPq (h2 (by omega)) rfl (eqM.jF (by unfold zJ; omega) eqM.rfl')

set_option maxRecDepth 100000 in
theorem L_X7_grp1 {G : zG} {σ : zSt} {Post : Option Value → zSt → Prop} (b : Int) (hR : zRg σ) (hb : zR b) (hb0 : b ≠ 0) (hg0 : 0 ≤ σ.1 0 3) (hg1 : σ.1 0 3 < 20) (h : zV G shM mX7_group 148 [some (.ref (zad G 0)), some (.int (zI b)), some (.int (zI 256))] [] (zsB σ 2 (256 * σ.1 0 3) 256 (σ.2 1)) Post) : ∀ (m : Nat) (i : Int) (hi0 : 0 ≤ i) (hm : i + m = 256), zV G shM mX7_group 58 [some (.ref (zad G 0)), some (.int (zI b)), some (.int (zI i))] [] (zsB σ 2 (256 * σ.1 0 3) i (σ.2 1)) Post := by
  intro m
  induction m with
  | zero =>
    intro i hi0 hm
    refine z_iload_2 dX7_group_58 ?_
    refine z_sipush 256 dX7_group_59 (by decide +kernel) ?_
    refine z_icmp_ge (tgt := 148) dX7_group_62 (by decide) (by omega) ⟨by decide, by decide⟩ (fun c62 => ?_) (fun c62 => by exfalso; omega)
    have e : i = 256 := by omega
    subst e
    exact h
  | succ m ih =>
    intro i hi0 hm
    refine z_iload_2 dX7_group_58 ?_
    refine z_sipush 256 dX7_group_59 (by decide +kernel) ?_
    refine z_icmp_ge (tgt := 148) dX7_group_62 (by decide) (by omega) ⟨by decide, by decide⟩ (fun c62 => by exfalso; omega) (fun c62 => ?_)
    refine z_aload_0 dX7_group_65 ?_
    refine z_getR (j := 2) dX7_group_66 zf_X7_13 rfl rfl ?_
    refine z_sipush 256 dX7_group_69 (by decide +kernel) ?_
    refine z_aload_0 dX7_group_72 ?_
    refine z_getI (j := 3) dX7_group_73 zf_X7_79 rfl rfl ?_
    refine z_top (b := σ.1 0 3) zsB_F ?_
    have w1 : zR (σ.1 0 3) := hR.1 0 3
    refine z_imul dX7_group_76 ?_
    refine z_iload_2 dX7_group_77 ?_
    refine z_iadd dX7_group_78 ?_
    refine z_iload_1 dX7_group_79 ?_
    refine z_if_eq (tgt := 92) dX7_group_80 (by decide) (by omega) (fun c80 => by exfalso; omega) (fun c80 => ?_)
    refine z_aload_0 dX7_group_83 ?_
    refine z_getR (j := 1) dX7_group_84 zf_X7_7 rfl rfl ?_
    refine z_iload_2 dX7_group_87 ?_
    refine z_iald dX7_group_88 rfl (by decide) (by omega) (by omega) ?_
    refine z_top (b := σ.2 1 i) (zsB_ne1 (by omega)) ?_
    have w2 : zR (σ.2 1 i) := hR.2 1 i
    refine z_goto (tgt := 107) dX7_group_89 (by decide) ?_
    refine z_iast dX7_group_107 rfl (by decide) (by omega) (by omega) (by omega) ?_
    refine z_aload_0 dX7_group_108 ?_
    refine z_getR (j := 1) dX7_group_109 zf_X7_7 rfl rfl ?_
    refine z_iload_2 dX7_group_112 ?_
    refine z_iload_1 dX7_group_113 ?_
    refine z_if_eq (tgt := 126) dX7_group_114 (by decide) (by omega) (fun c114 => by exfalso; omega) (fun c114 => ?_)
    refine z_aload_0 dX7_group_117 ?_
    refine z_getR (j := 1) dX7_group_118 zf_X7_7 rfl rfl ?_
    refine z_iload_2 dX7_group_121 ?_
    refine z_iald dX7_group_122 rfl (by decide) (by omega) (by omega) ?_
    refine z_top (b := σ.2 1 i) ((zsA_ne1 (by omega)).trans (zsB_ne1 (by omega))) ?_
    have w3 : zR (σ.2 1 i) := hR.2 1 i
    refine z_goto (tgt := 141) dX7_group_123 (by decide) ?_
    refine z_iast dX7_group_141 rfl (by decide) (by omega) (by omega) (by omega) ?_
    refine z_iinc_2 dX7_group_142 (Nat.le_of_ble_eq_true rfl) rfl ?_
    refine z_goto (tgt := 58) dX7_group_145 (by decide) ?_
    exact z_st ((zsA_id ((zsA_ne1 (by omega)).trans (zsB_ne1 (by omega)))).trans (zsB_S hi0 rfl rfl)) (ih (i + 1) (by omega) (by omega))

set_option maxRecDepth 100000 in
theorem L_X7_grp0 {G : zG} {σ : zSt} {Post : Option Value → zSt → Prop} (b : Int) (hR : zRg σ) (hb : zR b) (hb0 : b = 0) (hg0 : 0 ≤ σ.1 0 3) (hg1 : σ.1 0 3 < 20) (h : zV G shM mX7_group 148 [some (.ref (zad G 0)), some (.int (zI b)), some (.int (zI 256))] [] (zsB σ 1 0 256 (fun q => σ.2 2 (256 * σ.1 0 3 + q))) Post) : ∀ (m : Nat) (i : Int) (hi0 : 0 ≤ i) (hm : i + m = 256), zV G shM mX7_group 58 [some (.ref (zad G 0)), some (.int (zI b)), some (.int (zI i))] [] (zsB σ 1 0 i (fun q => σ.2 2 (256 * σ.1 0 3 + q))) Post := by
  intro m
  induction m with
  | zero =>
    intro i hi0 hm
    refine z_iload_2 dX7_group_58 ?_
    refine z_sipush 256 dX7_group_59 (by decide +kernel) ?_
    refine z_icmp_ge (tgt := 148) dX7_group_62 (by decide) (by omega) ⟨by decide, by decide⟩ (fun c62 => ?_) (fun c62 => by exfalso; omega)
    have e : i = 256 := by omega
    subst e
    exact h
  | succ m ih =>
    intro i hi0 hm
    refine z_iload_2 dX7_group_58 ?_
    refine z_sipush 256 dX7_group_59 (by decide +kernel) ?_
    refine z_icmp_ge (tgt := 148) dX7_group_62 (by decide) (by omega) ⟨by decide, by decide⟩ (fun c62 => by exfalso; omega) (fun c62 => ?_)
    refine z_aload_0 dX7_group_65 ?_
    refine z_getR (j := 2) dX7_group_66 zf_X7_13 rfl rfl ?_
    refine z_sipush 256 dX7_group_69 (by decide +kernel) ?_
    refine z_aload_0 dX7_group_72 ?_
    refine z_getI (j := 3) dX7_group_73 zf_X7_79 rfl rfl ?_
    refine z_top (b := σ.1 0 3) zsB_F ?_
    have w1 : zR (σ.1 0 3) := hR.1 0 3
    refine z_imul dX7_group_76 ?_
    refine z_iload_2 dX7_group_77 ?_
    refine z_iadd dX7_group_78 ?_
    refine z_iload_1 dX7_group_79 ?_
    refine z_if_eq (tgt := 92) dX7_group_80 (by decide) (by omega) (fun c80 => ?_) (fun c80 => by exfalso; omega)
    refine z_aload_0 dX7_group_92 ?_
    refine z_getR (j := 2) dX7_group_93 zf_X7_13 rfl rfl ?_
    refine z_sipush 256 dX7_group_96 (by decide +kernel) ?_
    refine z_aload_0 dX7_group_99 ?_
    refine z_getI (j := 3) dX7_group_100 zf_X7_79 rfl rfl ?_
    refine z_top (b := σ.1 0 3) zsB_F ?_
    have w2 : zR (σ.1 0 3) := hR.1 0 3
    refine z_imul dX7_group_103 ?_
    refine z_iload_2 dX7_group_104 ?_
    refine z_iadd dX7_group_105 ?_
    refine z_iald dX7_group_106 rfl (by decide) (by omega) (by omega) ?_
    refine z_top (b := σ.2 2 ((256 * (σ.1 0 3)) + i)) (zsB_ne1 (by omega)) ?_
    have w3 : zR (σ.2 2 ((256 * (σ.1 0 3)) + i)) := hR.2 2 ((256 * (σ.1 0 3)) + i)
    refine z_iast dX7_group_107 rfl (by decide) (by omega) (by omega) (by omega) ?_
    refine z_aload_0 dX7_group_108 ?_
    refine z_getR (j := 1) dX7_group_109 zf_X7_7 rfl rfl ?_
    refine z_iload_2 dX7_group_112 ?_
    refine z_iload_1 dX7_group_113 ?_
    refine z_if_eq (tgt := 126) dX7_group_114 (by decide) (by omega) (fun c114 => ?_) (fun c114 => by exfalso; omega)
    refine z_aload_0 dX7_group_126 ?_
    refine z_getR (j := 2) dX7_group_127 zf_X7_13 rfl rfl ?_
    refine z_sipush 256 dX7_group_130 (by decide +kernel) ?_
    refine z_aload_0 dX7_group_133 ?_
    refine z_getI (j := 3) dX7_group_134 zf_X7_79 rfl rfl ?_
    refine z_top (b := σ.1 0 3) (zsA_F.trans zsB_F) ?_
    have w4 : zR (σ.1 0 3) := hR.1 0 3
    refine z_imul dX7_group_137 ?_
    refine z_iload_2 dX7_group_138 ?_
    refine z_iadd dX7_group_139 ?_
    refine z_iald dX7_group_140 rfl (by decide) (by omega) (by omega) ?_
    refine z_top (b := σ.2 2 ((256 * (σ.1 0 3)) + i)) zsA_eq ?_
    have w5 : zR (σ.2 2 ((256 * (σ.1 0 3)) + i)) := hR.2 2 ((256 * (σ.1 0 3)) + i)
    refine z_iast dX7_group_141 rfl (by decide) (by omega) (by omega) (by omega) ?_
    refine z_iinc_2 dX7_group_142 (Nat.le_of_ble_eq_true rfl) rfl ?_
    refine z_goto (tgt := 58) dX7_group_145 (by decide) ?_
    have e1 : (zsB σ 1 0 i (fun q => σ.2 2 (256 * σ.1 0 3 + q))).2 2 (256 * σ.1 0 3 + i) = σ.2 2 (256 * σ.1 0 3 + i) := zsB_ne1 (by omega)
    refine z_st (congrArg (fun q => zsA q 1 i (σ.2 2 (256 * σ.1 0 3 + i))) (zsA_id e1)) ?_
    exact z_st (zsB_S hi0 (by omega) rfl) (ih (i + 1) (by omega) (by omega))

theorem zg_1 {σ : zSt} {i j : Nat} {x y : Int} : zsF (zsF σ i j x) i j y = zsF σ i j y := by
  refine Prod.ext (funext fun a => funext fun b => ?_) rfl
  show (if a = i ∧ b = j then y else if a = i ∧ b = j then x else σ.1 a b) = if a = i ∧ b = j then y else σ.1 a b
  by_cases q : a = i ∧ b = j
  · rw [if_pos q, if_pos q]
  · rw [if_neg q, if_neg q, if_neg q]
theorem zsF_id {σ : zSt} {i j : Nat} {x : Int} (h : σ.1 i j = x) : zsF σ i j x = σ := by
  refine Prod.ext (funext fun a => funext fun b => ?_) rfl
  show (if a = i ∧ b = j then x else σ.1 a b) = σ.1 a b
  by_cases q : a = i ∧ b = j
  · rw [if_pos q, q.1, q.2, h]
  · rw [if_neg q]

set_option maxRecDepth 100000 in
theorem M_X7_group {G : zG} {σ : zSt} {Post : Option Value → zSt → Prop} {N : Int} (hI : zInv N σ) (hN : N ≤ 2000000000) (b : Int) (hb : zR b) (h3 : b = 0 → σ.1 0 3 = 0 → ∀ σ2, eqM σ2 σ → Post (some (.int (zI (-3)))) σ2) (h4 : b ≠ 0 → σ.1 0 3 = 20 → ∀ σ2, eqM σ2 σ → Post (some (.int (zI (-4)))) σ2) (h1 : b ≠ 0 → σ.1 0 3 < 20 → ∀ σ2, eqM σ2 (zsF (zsB σ 2 (256 * σ.1 0 3) 256 (σ.2 1)) 0 3 (σ.1 0 3 + 1)) → Post (some (.int (zI (σ.1 0 3 + 1)))) σ2) (h2 : b = 0 → 0 < σ.1 0 3 → ∀ σ2, eqM σ2 (zsB (zsF σ 0 3 (σ.1 0 3 - 1)) 1 0 256 (fun q => σ.2 2 (256 * (σ.1 0 3 - 1) + q))) → Post (some (.int (zI (σ.1 0 3 - 1)))) σ2) : zV G shM mX7_group 0 (zini 3 [.ref (zad G 0), .int (zI b)]) [] σ Post := by
  refine z_rg (fun hR => ?_)
  refine z_lv (lv' := [some (.ref (zad G 0)), some (.int (zI b)), none]) rfl ?_
  obtain ⟨hgr, hfi, hle, hto, hna, hes, htl, hbg, hca, hsa, hme, hlc, hln, hsg, hrw, hnl, hns, hwd, hlv, hlf, hdi, htk⟩ := hI
  refine z_aload_0 dX7_group_0 ?_
  refine z_iconst 0 dX7_group_1 rfl ?_
  refine z_putI (j := 0) dX7_group_2 zp_X7_72 rfl rfl ⟨by decide, by decide⟩ ?_
  refine z_iload_1 dX7_group_5 ?_
  refine z_if_ne (tgt := 19) dX7_group_6 (by decide) (by omega) (fun c6 => ?_) (fun c6 => ?_)
  · refine z_iload_1 dX7_group_19 ?_
    refine z_if_eq (tgt := 35) dX7_group_20 (by decide) (by omega) (fun c20 => by exfalso; omega) (fun c20 => ?_)
    refine z_aload_0 dX7_group_23 ?_
    refine z_getI (j := 3) dX7_group_24 zf_X7_79 rfl rfl ?_
    refine z_top (b := σ.1 0 3) (zsF_ne (by omega)) ?_
    have w1 : zR (σ.1 0 3) := hR.1 0 3
    refine z_bipush 20 dX7_group_27 (by decide +kernel) ?_
    refine z_icmp_ne (tgt := 35) dX7_group_29 (by decide) (by omega) ⟨by decide, by decide⟩ (fun c29 => ?_) (fun c29 => ?_)
    · refine z_aload_0 dX7_group_35 ?_
      refine z_iload_1 dX7_group_36 ?_
      refine z_if_eq (tgt := 47) dX7_group_37 (by decide) (by omega) (fun c37 => by exfalso; omega) (fun c37 => ?_)
      refine z_aload_0 dX7_group_40 ?_
      refine z_getI (j := 3) dX7_group_41 zf_X7_79 rfl rfl ?_
      refine z_top (b := σ.1 0 3) (zsF_ne (by omega)) ?_
      have w2 : zR (σ.1 0 3) := hR.1 0 3
      refine z_goto (tgt := 53) dX7_group_44 (by decide) ?_
      refine z_putI (j := 3) dX7_group_53 zp_X7_79 rfl rfl (by omega) ?_
      refine z_iconst 0 dX7_group_56 rfl ?_
      refine z_istore_2 dX7_group_57 (Nat.le_of_ble_eq_true rfl) rfl ?_
      have e0 : (zsF (zsF σ 0 0 0) 0 3 (σ.1 0 3)).1 0 3 = σ.1 0 3 := zsF_eq
      refine z_st zsB_0.symm (L_X7_grp1 (σ := zsF (zsF σ 0 0 0) 0 3 (σ.1 0 3)) b (zRg.F (zRg.F hR (by omega)) (by omega)) hb (by omega) (by omega) (by omega) ?_ 256 0 (by omega) (by omega))
      rw [e0]
      refine z_aload_0 dX7_group_148 ?_
      refine z_iload_1 dX7_group_149 ?_
      refine z_if_eq (tgt := 162) dX7_group_150 (by decide) (by omega) (fun c150 => by exfalso; omega) (fun c150 => ?_)
      refine z_aload_0 dX7_group_153 ?_
      refine z_getI (j := 3) dX7_group_154 zf_X7_79 rfl rfl ?_
      refine z_top (b := σ.1 0 3) (zsB_F.trans zsF_eq) ?_
      have w3 : zR (σ.1 0 3) := hR.1 0 3
      refine z_iconst 1 dX7_group_157 rfl ?_
      refine z_iadd dX7_group_158 ?_
      refine z_goto (tgt := 166) dX7_group_159 (by decide) ?_
      refine z_putI (j := 3) dX7_group_166 zp_X7_79 rfl rfl (by omega) ?_
      refine z_aload_0 dX7_group_169 ?_
      refine z_getI (j := 3) dX7_group_170 zf_X7_79 rfl rfl ?_
      refine z_top (b := ((σ.1 0 3) + 1)) zsF_eq ?_
      refine z_iret dX7_group_173 rfl ?_
      exact h1 (by omega) (by omega) _ ⟨fun i j hj => by
    show (if i = 0 ∧ j = 3 then σ.1 0 3 + 1 else if i = 0 ∧ j = 3 then σ.1 0 3 else if i = 0 ∧ j = 0 then 0 else σ.1 i j) = (if i = 0 ∧ j = 3 then σ.1 0 3 + 1 else σ.1 i j)
    by_cases q : i = 0 ∧ j = 3
    · rw [if_pos q, if_pos q]
    · rw [if_neg q, if_neg q, if_neg q, if_neg (fun e => hj ⟨e.1, Or.inl e.2⟩)], fun _ => rfl⟩
    · refine z_bipush (-4) dX7_group_32 (by decide +kernel) ?_
      refine z_iret dX7_group_34 rfl ?_
      exact zPq (h4 (by omega) (by omega)) rfl (eqM.jF (by unfold zJ; omega) eqM.rfl')
  · refine z_aload_0 dX7_group_9 ?_
    refine z_getI (j := 3) dX7_group_10 zf_X7_79 rfl rfl ?_
    refine z_top (b := σ.1 0 3) (zsF_ne (by omega)) ?_
    have w4 : zR (σ.1 0 3) := hR.1 0 3
    refine z_if_ne (tgt := 19) dX7_group_13 (by decide) (by omega) (fun c13 => ?_) (fun c13 => ?_)
    · refine z_iload_1 dX7_group_19 ?_
      refine z_if_eq (tgt := 35) dX7_group_20 (by decide) (by omega) (fun c20 => ?_) (fun c20 => by exfalso; omega)
      refine z_aload_0 dX7_group_35 ?_
      refine z_iload_1 dX7_group_36 ?_
      refine z_if_eq (tgt := 47) dX7_group_37 (by decide) (by omega) (fun c37 => ?_) (fun c37 => by exfalso; omega)
      refine z_aload_0 dX7_group_47 ?_
      refine z_getI (j := 3) dX7_group_48 zf_X7_79 rfl rfl ?_
      refine z_top (b := σ.1 0 3) (zsF_ne (by omega)) ?_
      have w5 : zR (σ.1 0 3) := hR.1 0 3
      refine z_iconst 1 dX7_group_51 rfl ?_
      refine z_isub dX7_group_52 ?_
      refine z_putI (j := 3) dX7_group_53 zp_X7_79 rfl rfl (by omega) ?_
      refine z_iconst 0 dX7_group_56 rfl ?_
      refine z_istore_2 dX7_group_57 (Nat.le_of_ble_eq_true rfl) rfl ?_
      have e0 : (zsF (zsF σ 0 0 0) 0 3 (σ.1 0 3 - 1)).1 0 3 = σ.1 0 3 - 1 := zsF_eq
      refine z_st zsB_0.symm (L_X7_grp0 (σ := zsF (zsF σ 0 0 0) 0 3 (σ.1 0 3 - 1)) b (zRg.F (zRg.F hR (by omega)) (by omega)) hb (by omega) (by omega) (by omega) ?_ 256 0 (by omega) (by omega))
      rw [e0]
      refine z_aload_0 dX7_group_148 ?_
      refine z_iload_1 dX7_group_149 ?_
      refine z_if_eq (tgt := 162) dX7_group_150 (by decide) (by omega) (fun c150 => ?_) (fun c150 => by exfalso; omega)
      refine z_aload_0 dX7_group_162 ?_
      refine z_getI (j := 3) dX7_group_163 zf_X7_79 rfl rfl ?_
      refine z_top (b := ((σ.1 0 3) - 1)) (zsB_F.trans zsF_eq) ?_
      refine z_putI (j := 3) dX7_group_166 zp_X7_79 rfl rfl (by omega) ?_
      refine z_aload_0 dX7_group_169 ?_
      refine z_getI (j := 3) dX7_group_170 zf_X7_79 rfl rfl ?_
      refine z_top (b := ((σ.1 0 3) - 1)) zsF_eq ?_
      refine z_iret dX7_group_173 rfl ?_
      exact h2 (by omega) (by omega) _ ⟨fun i j hj => by
    show (if i = 0 ∧ j = 3 then σ.1 0 3 - 1 else if i = 0 ∧ j = 3 then σ.1 0 3 - 1 else if i = 0 ∧ j = 0 then 0 else σ.1 i j) = (if i = 0 ∧ j = 3 then σ.1 0 3 - 1 else σ.1 i j)
    by_cases q : i = 0 ∧ j = 3
    · rw [if_pos q, if_pos q]
    · rw [if_neg q, if_neg q, if_neg q, if_neg (fun e => hj ⟨e.1, Or.inl e.2⟩)], fun _ => rfl⟩
    · refine z_bipush (-3) dX7_group_16 (by decide +kernel) ?_
      refine z_iret dX7_group_18 rfl ?_
      exact zPq (h3 (by omega) (by omega)) rfl (eqM.jF (by unfold zJ; omega) eqM.rfl')

set_option maxRecDepth 100000 in
theorem M_X7_endSign {G : zG} {σ : zSt} {Post : Option Value → zSt → Prop} {N : Int} (hI : zInv N σ) (hN : N ≤ 2000000000) (c : Int) (hc : zR c) (h1 : -1 ≤ c → c < 256 → ∀ σ2, eqM σ2 (zsF σ 0 5 c) → Post (some (.int (zI 1))) σ2) (h0 : c < -1 ∨ 256 ≤ c → ∀ σ2, eqM σ2 σ → Post (some (.int (zI (-2)))) σ2) : zV G shM mX7_endSign 0 (zini 2 [.ref (zad G 0), .int (zI c)]) [] σ Post := by
  refine z_rg (fun hR => ?_)
  refine z_lv (lv' := [some (.ref (zad G 0)), some (.int (zI c))]) rfl ?_
  obtain ⟨hgr, hfi, hle, hto, hna, hes, htl, hbg, hca, hsa, hme, hlc, hln, hsg, hrw, hnl, hns, hwd, hlv, hlf, hdi, htk⟩ := hI
  refine z_aload_0 dX7_endSign_0 ?_
  refine z_iconst 0 dX7_endSign_1 rfl ?_
  refine z_putI (j := 0) dX7_endSign_2 zp_X7_72 rfl rfl ⟨by decide, by decide⟩ ?_
  refine z_iload_1 dX7_endSign_5 ?_
  refine z_iconst (-1) dX7_endSign_6 rfl ?_
  refine z_icmp_eq (tgt := 20) dX7_endSign_7 (by decide) (by omega) ⟨by decide, by decide⟩ (fun c7 => ?_) (fun c7 => ?_)
  · refine z_aload_0 dX7_endSign_20 ?_
    refine z_iload_1 dX7_endSign_21 ?_
    refine z_putI (j := 5) dX7_endSign_22 zp_X7_20 rfl rfl (by omega) ?_
    refine z_iconst 1 dX7_endSign_25 rfl ?_
    refine z_iret dX7_endSign_26 rfl ?_
    exact zPq (h1 (by omega) (by omega)) rfl (eqM.F (eqM.jF (by unfold zJ; omega) eqM.rfl'))
  · refine z_iload_1 dX7_endSign_10 ?_
    refine z_callS mX7_isSign [.int (zI c)] dX7_endSign_11 zk_X7_isSign zl_X7_75 ⟨Nat.le_of_ble_eq_true rfl, Nat.le_of_ble_eq_true rfl⟩ (Nat.le_of_ble_eq_true rfl) (Nat.le_of_ble_eq_true rfl) ?_
    refine M_X7_isSign c (by omega) (fun i1 i2 => ?_) (fun i1 => ?_)
    · refine z_b1 ?_
      refine z_if_ne (tgt := 20) dX7_endSign_14 (by decide) ⟨by decide, by decide⟩ (fun c14 => ?_) (fun c14 => by exfalso; omega)
      refine z_aload_0 dX7_endSign_20 ?_
      refine z_iload_1 dX7_endSign_21 ?_
      refine z_putI (j := 5) dX7_endSign_22 zp_X7_20 rfl rfl (by omega) ?_
      refine z_iconst 1 dX7_endSign_25 rfl ?_
      refine z_iret dX7_endSign_26 rfl ?_
      exact zPq (h1 (by omega) (by omega)) rfl (eqM.F (eqM.jF (by unfold zJ; omega) eqM.rfl'))
    · refine z_b1 ?_
      refine z_if_ne (tgt := 20) dX7_endSign_14 (by decide) ⟨by decide, by decide⟩ (fun c14 => by exfalso; omega) (fun c14 => ?_)
      refine z_bipush (-2) dX7_endSign_17 (by decide +kernel) ?_
      refine z_iret dX7_endSign_19 rfl ?_
      exact zPq (h0 (by omega)) rfl (eqM.jF (by unfold zJ; omega) eqM.rfl')

set_option maxRecDepth 100000 in
theorem M_X7_meaning {G : zG} {σ : zSt} {Post : Option Value → zSt → Prop} {N : Int} (hI : zInv N σ) (hN : N ≤ 2000000000) (s b : Int) (hs : zR s) (hb : b = 0 ∨ b = 1) (h1 : 0 ≤ s → s < 256 → ∀ σ2, eqM σ2 (zsA σ 3 s b) → Post (some (.int (zI 1))) σ2) (h0 : s < 0 ∨ 256 ≤ s → ∀ σ2, eqM σ2 σ → Post (some (.int (zI (-2)))) σ2) : zV G shM mX7_meaning 0 (zini 3 [.ref (zad G 0), .int (zI s), .int (zI b)]) [] σ Post := by
  refine z_rg (fun hR => ?_)
  refine z_lv (lv' := [some (.ref (zad G 0)), some (.int (zI s)), some (.int (zI b))]) rfl ?_
  obtain ⟨hgr, hfi, hle, hto, hna, hes, htl, hbg, hca, hsa, hme, hlc, hln, hsg, hrw, hnl, hns, hwd, hlv, hlf, hdi, htk⟩ := hI
  refine z_aload_0 dX7_meaning_0 ?_
  refine z_iconst 0 dX7_meaning_1 rfl ?_
  refine z_putI (j := 0) dX7_meaning_2 zp_X7_72 rfl rfl ⟨by decide, by decide⟩ ?_
  refine z_iload_1 dX7_meaning_5 ?_
  refine z_callS mX7_isSign [.int (zI s)] dX7_meaning_6 zk_X7_isSign zl_X7_75 ⟨Nat.le_of_ble_eq_true rfl, Nat.le_of_ble_eq_true rfl⟩ (Nat.le_of_ble_eq_true rfl) (Nat.le_of_ble_eq_true rfl) ?_
  refine M_X7_isSign s (by omega) (fun i1 i2 => ?_) (fun i1 => ?_)
  · refine z_b1 ?_
    refine z_if_ne (tgt := 15) dX7_meaning_9 (by decide) ⟨by decide, by decide⟩ (fun c9 => ?_) (fun c9 => by exfalso; omega)
    refine z_aload_0 dX7_meaning_15 ?_
    refine z_getR (j := 4) dX7_meaning_16 zf_X7_16 rfl rfl ?_
    refine z_iload_1 dX7_meaning_19 ?_
    refine z_iload_2 dX7_meaning_20 ?_
    refine z_zast dX7_meaning_21 rfl (by decide) (by omega) (by omega) (by omega) ?_
    refine z_iconst 1 dX7_meaning_22 rfl ?_
    refine z_iret dX7_meaning_23 rfl ?_
    exact zPq (h1 (by omega) (by omega)) rfl (eqM.A (eqM.jF (by unfold zJ; omega) eqM.rfl'))
  · refine z_b1 ?_
    refine z_if_ne (tgt := 15) dX7_meaning_9 (by decide) ⟨by decide, by decide⟩ (fun c9 => by exfalso; omega) (fun c9 => ?_)
    refine z_bipush (-2) dX7_meaning_12 (by decide +kernel) ?_
    refine z_iret dX7_meaning_14 rfl ?_
    exact zPq (h0 (by omega)) rfl (eqM.jF (by unfold zJ; omega) eqM.rfl')

set_option maxRecDepth 100000 in
theorem M_X7_file {G : zG} {σ : zSt} {Post : Option Value → zSt → Prop} {N : Int} (hI : zInv N σ) (hN : N ≤ 2000000000) (h1 : σ.1 0 6 < 8 → ∀ σ2, eqM σ2 (zsF σ 0 6 (σ.1 0 6 + 1)) → Post (some (.int (zI (σ.1 0 6)))) σ2) (h0 : σ.1 0 6 = 8 → ∀ σ2, eqM σ2 σ → Post (some (.int (zI (-4)))) σ2) : zV G shM mX7_file 0 (zini 1 [.ref (zad G 0)]) [] σ Post := by
  refine z_rg (fun hR => ?_)
  refine z_lv (lv' := [some (.ref (zad G 0))]) rfl ?_
  obtain ⟨hgr, hfi, hle, hto, hna, hes, htl, hbg, hca, hsa, hme, hlc, hln, hsg, hrw, hnl, hns, hwd, hlv, hlf, hdi, htk⟩ := hI
  refine z_aload_0 dX7_file_0 ?_
  refine z_iconst 0 dX7_file_1 rfl ?_
  refine z_putI (j := 0) dX7_file_2 zp_X7_72 rfl rfl ⟨by decide, by decide⟩ ?_
  refine z_aload_0 dX7_file_5 ?_
  refine z_getI (j := 6) dX7_file_6 zf_X7_82 rfl rfl ?_
  refine z_top (b := σ.1 0 6) (zsF_ne (by omega)) ?_
  have w1 : zR (σ.1 0 6) := hR.1 0 6
  refine z_bipush 8 dX7_file_9 (by decide +kernel) ?_
  refine z_icmp_ne (tgt := 17) dX7_file_11 (by decide) (by omega) ⟨by decide, by decide⟩ (fun c11 => ?_) (fun c11 => ?_)
  · refine z_aload_0 dX7_file_17 ?_
    refine z_dup dX7_file_18 rfl ?_
    refine z_getI (j := 6) dX7_file_19 zf_X7_82 rfl rfl ?_
    refine z_top (b := σ.1 0 6) (zsF_ne (by omega)) ?_
    have w2 : zR (σ.1 0 6) := hR.1 0 6
    refine z_iconst 1 dX7_file_22 rfl ?_
    refine z_iadd dX7_file_23 ?_
    refine z_putI (j := 6) dX7_file_24 zp_X7_82 rfl rfl (by omega) ?_
    refine z_aload_0 dX7_file_27 ?_
    refine z_getI (j := 6) dX7_file_28 zf_X7_82 rfl rfl ?_
    refine z_top (b := ((σ.1 0 6) + 1)) zsF_eq ?_
    refine z_iconst 1 dX7_file_31 rfl ?_
    refine z_isub dX7_file_32 ?_
    refine z_iret dX7_file_33 rfl ?_
    exact zPq (h1 (by omega)) (by omega) (eqM.F (eqM.jF (by unfold zJ; omega) eqM.rfl'))
  · refine z_bipush (-4) dX7_file_14 (by decide +kernel) ?_
    refine z_iret dX7_file_16 rfl ?_
    exact zPq (h0 (by omega)) rfl (eqM.jF (by unfold zJ; omega) eqM.rfl')

set_option maxRecDepth 100000 in
theorem M_X7_line {G : zG} {σ : zSt} {Post : Option Value → zSt → Prop} {N : Int} (hI : zInv N σ) (hN : N ≤ 2000000000) (f : Int) (hf : zR f) (hm : f < 0 ∨ σ.1 0 6 ≤ f → ∀ σ2, eqM σ2 σ → Post (some (.int (zI (-1)))) σ2) (h1 : 0 ≤ f → f < σ.1 0 6 → σ.2 4 f < 30 → ∀ σ2, eqM σ2 (zsA σ 4 f (σ.2 4 f + 1)) → Post (some (.int (zI (σ.2 4 f + 1)))) σ2) (h0 : 0 ≤ f → f < σ.1 0 6 → 30 ≤ σ.2 4 f → ∀ σ2, eqM σ2 σ → Post (some (.int (zI (-4)))) σ2) : zV G shM mX7_line 0 (zini 2 [.ref (zad G 0), .int (zI f)]) [] σ Post := by
  refine z_rg (fun hR => ?_)
  refine z_lv (lv' := [some (.ref (zad G 0)), some (.int (zI f))]) rfl ?_
  obtain ⟨hgr, hfi, hle, hto, hna, hes, htl, hbg, hca, hsa, hme, hlc, hln, hsg, hrw, hnl, hns, hwd, hlv, hlf, hdi, htk⟩ := hI
  have hlc1 := hlc f
  refine z_aload_0 dX7_line_0 ?_
  refine z_iconst 0 dX7_line_1 rfl ?_
  refine z_putI (j := 0) dX7_line_2 zp_X7_72 rfl rfl ⟨by decide, by decide⟩ ?_
  refine z_aload_0 dX7_line_5 ?_
  refine z_iload_1 dX7_line_6 ?_
  refine z_callV mX7_isFile [.int (zI f)] dX7_line_7 zk_X7_isFile zl_X7_85 ⟨Nat.le_of_ble_eq_true rfl, Nat.le_of_ble_eq_true rfl⟩ rfl rfl (Nat.le_of_ble_eq_true rfl) (Nat.le_of_ble_eq_true rfl) ?_
  refine M_X7_isFile f (by omega) (fun i1 i2 => ?_) (fun i1 => ?_)
  · refine z_b1 ?_
    have e1 : (zsF σ 0 0 0).1 0 6 = σ.1 0 6 := (zsF_ne (by omega))
    refine z_if_ne (tgt := 15) dX7_line_10 (by decide) ⟨by decide, by decide⟩ (fun c10 => ?_) (fun c10 => by exfalso; omega)
    refine z_aload_0 dX7_line_15 ?_
    refine z_getR (j := 7) dX7_line_16 zf_X7_24 rfl rfl ?_
    refine z_iload_1 dX7_line_19 ?_
    refine z_iald dX7_line_20 rfl (by decide) (by omega) (by omega) ?_
    refine z_top (b := σ.2 4 f) zsF_A ?_
    have w3 : zR (σ.2 4 f) := hR.2 4 f
    refine z_bipush 30 dX7_line_21 (by decide +kernel) ?_
    refine z_icmp_ne (tgt := 29) dX7_line_23 (by decide) (by omega) ⟨by decide, by decide⟩ (fun c23 => ?_) (fun c23 => ?_)
    · refine z_aload_0 dX7_line_29 ?_
      refine z_getR (j := 7) dX7_line_30 zf_X7_24 rfl rfl ?_
      refine z_iload_1 dX7_line_33 ?_
      refine z_dup2 dX7_line_34 rfl rfl ?_
      refine z_iald dX7_line_35 rfl (by decide) (by omega) (by omega) ?_
      refine z_top (b := σ.2 4 f) zsF_A ?_
      have w4 : zR (σ.2 4 f) := hR.2 4 f
      refine z_iconst 1 dX7_line_36 rfl ?_
      refine z_iadd dX7_line_37 ?_
      refine z_iast dX7_line_38 rfl (by decide) (by omega) (by omega) (by omega) ?_
      refine z_aload_0 dX7_line_39 ?_
      refine z_getR (j := 7) dX7_line_40 zf_X7_24 rfl rfl ?_
      refine z_iload_1 dX7_line_43 ?_
      refine z_iald dX7_line_44 rfl (by decide) (by omega) (by omega) ?_
      refine z_top (b := ((σ.2 4 f) + 1)) zsA_eq ?_
      refine z_iret dX7_line_45 rfl ?_
      exact zPq (h1 (by omega) (by omega) (by omega)) rfl (eqM.A (eqM.jF (by unfold zJ; omega) eqM.rfl'))
    · refine z_bipush (-4) dX7_line_26 (by decide +kernel) ?_
      refine z_iret dX7_line_28 rfl ?_
      exact zPq (h0 (by omega) (by omega) (by omega)) rfl (eqM.jF (by unfold zJ; omega) eqM.rfl')
  · refine z_b1 ?_
    have e2 : (zsF σ 0 0 0).1 0 6 = σ.1 0 6 := (zsF_ne (by omega))
    refine z_if_ne (tgt := 15) dX7_line_10 (by decide) ⟨by decide, by decide⟩ (fun c10 => by exfalso; omega) (fun c10 => ?_)
    refine z_iconst (-1) dX7_line_13 rfl ?_
    refine z_iret dX7_line_14 rfl ?_
    exact zPq (hm (by omega)) rfl (eqM.jF (by unfold zJ; omega) eqM.rfl')

def zbm (x : Int64) (n i : Int) : Int := (((x >>> ((zI (8 * (n - 1 - i))).toInt64 &&& 63)) &&& 255).toInt32).toInt
theorem zsA_ov {σ : zSt} {i k : Nat} {z w a v b : Int} (h : i ≠ k) : zsA (zsA (zsA σ i z a) k w v) i z b = zsA (zsA σ k w v) i z b := by
  refine Prod.ext rfl (funext fun p => funext fun q => ?_)
  show (if p = i ∧ q = z then b else if p = k ∧ q = w then v else if p = i ∧ q = z then a else σ.2 p q) = (if p = i ∧ q = z then b else if p = k ∧ q = w then v else σ.2 p q)
  by_cases h1 : p = i ∧ q = z
  · rw [if_pos h1, if_pos h1]
  · rw [if_neg h1, if_neg h1, if_neg h1]

set_option maxRecDepth 100000 in
theorem L_X7_add {G : zG} {σ : zSt} {Post : Option Value → zSt → Prop} (f n row len : Int) (x : Int64) (hR : zRg σ) (hf : zR f) (hn1 : 1 ≤ n) (hn8 : n ≤ 8) (hr0 : 0 ≤ row) (hr1 : row < 240) (hl0 : 0 ≤ len) (hl1 : len + n ≤ 120) (h : Post (some (.int (zI (len + n)))) (zsA (zsB σ 6 (120 * row + len) n (zbm x n)) 5 row (len + n))) : ∀ (m : Nat) (k i : Int) (hk : k = n - 1 - i) (hi0 : 0 ≤ i) (him : i + m = n), zV G shM mX7_add 82 [some (.ref (zad G 0)), some (.int (zI f)), some (.long x), none, some (.int (zI n)), some (.int (zI row)), some (.int (zI k))] [] (zsA (zsB σ 6 (120 * row + len) i (zbm x n)) 5 row (len + i)) Post := by
  intro m
  induction m with
  | zero =>
    intro k i hk hi0 him
    refine z_iload_6 dX7_add_82 ?_
    refine z_if_lt (tgt := 134) dX7_add_84 (by decide) (by omega) (fun c84 => ?_) (fun c84 => by exfalso; omega)
    refine z_aload_0 dX7_add_134 ?_
    refine z_getR (j := 8) dX7_add_135 zf_X7_27 rfl rfl ?_
    refine z_iload_5 dX7_add_138 ?_
    refine z_iald dX7_add_140 rfl (by decide) (by omega) (by omega) ?_
    refine z_top (b := (len + i)) zsA_eq ?_
    refine z_iret dX7_add_141 rfl ?_
    have e : i = n := by omega
    subst e
    exact h
  | succ m ih =>
    intro k i hk hi0 him
    refine z_iload_6 dX7_add_82 ?_
    refine z_if_lt (tgt := 134) dX7_add_84 (by decide) (by omega) (fun c84 => by exfalso; omega) (fun c84 => ?_)
    refine z_aload_0 dX7_add_87 ?_
    refine z_getR (j := 9) dX7_add_88 zf_X7_30 rfl rfl ?_
    refine z_bipush 120 dX7_add_91 (by decide +kernel) ?_
    refine z_iload_5 dX7_add_93 ?_
    refine z_imul dX7_add_95 ?_
    refine z_aload_0 dX7_add_96 ?_
    refine z_getR (j := 8) dX7_add_97 zf_X7_27 rfl rfl ?_
    refine z_iload_5 dX7_add_100 ?_
    refine z_iald dX7_add_102 rfl (by decide) (by omega) (by omega) ?_
    refine z_top (b := (len + i)) zsA_eq ?_
    refine z_iadd dX7_add_103 ?_
    refine z_lloadN (i := 2) dX7_add_104 rfl rfl ?_
    refine z_bipush 8 dX7_add_105 (by decide +kernel) ?_
    refine z_iload_6 dX7_add_107 ?_
    refine z_imul dX7_add_109 ?_
    refine z_lshr dX7_add_110 ?_
    refine z_ldc2 255 dX7_add_111 zk_X7_88 ?_
    refine z_land dX7_add_114 ?_
    refine z_l2i dX7_add_115 ?_
    refine z_raw2 ?_
    have w1 := zR_toInt (((x >>> ((zI (8 * k)).toInt64 &&& 63)) &&& 255).toInt32)
    refine z_iast dX7_add_116 rfl (by decide) (by omega) (by omega) (by omega) ?_
    refine z_aload_0 dX7_add_117 ?_
    refine z_getR (j := 8) dX7_add_118 zf_X7_27 rfl rfl ?_
    refine z_iload_5 dX7_add_121 ?_
    refine z_dup2 dX7_add_123 rfl rfl ?_
    refine z_iald dX7_add_124 rfl (by decide) (by omega) (by omega) ?_
    refine z_top (b := (len + i)) ((zsA_ne1 (by omega)).trans zsA_eq) ?_
    refine z_iconst 1 dX7_add_125 rfl ?_
    refine z_iadd dX7_add_126 ?_
    refine z_iast dX7_add_127 rfl (by decide) (by omega) (by omega) (by omega) ?_
    refine z_iinc_6 dX7_add_128 (Nat.le_of_ble_eq_true rfl) rfl ?_
    refine z_goto (tgt := 82) dX7_add_131 (by decide) ?_
    refine z_st ((zsA_ov (by decide)).trans (congrArg (fun q => zsA q 5 row (len + i + 1)) (zsB_S (z := 120 * row + (len + i)) hi0 (by omega) (by unfold zbm; rw [hk])))) ?_
    have e9 : len + i + 1 = len + (i + 1) := by omega
    rw [e9]
    exact ih (k + (-1)) (i + 1) (by omega) (by omega) (by omega)

set_option maxRecDepth 100000 in
theorem M_X7_add {G : zG} {σ : zSt} {Post : Option Value → zSt → Prop} {N : Int} (hI : zInv N σ) (hN : N ≤ 2000000000) (f n : Int) (x : Int64) (hf : zR f) (hn : zR n) (hm : f < 0 ∨ σ.1 0 6 ≤ f → ∀ σ2, eqM σ2 σ → Post (some (.int (zI (-1)))) σ2) (h2 : 0 ≤ f → f < σ.1 0 6 → n < 1 ∨ 8 < n → ∀ σ2, eqM σ2 σ → Post (some (.int (zI (-2)))) σ2) (h3 : 0 ≤ f → f < σ.1 0 6 → 1 ≤ n → n ≤ 8 → σ.2 4 f = 0 → ∀ σ2, eqM σ2 σ → Post (some (.int (zI (-3)))) σ2) (h4 : 0 ≤ f → f < σ.1 0 6 → 1 ≤ n → n ≤ 8 → 0 < σ.2 4 f → 120 < σ.2 5 (30 * f + σ.2 4 f - 1) + n → ∀ σ2, eqM σ2 σ → Post (some (.int (zI (-4)))) σ2) (h1 : 0 ≤ f → f < σ.1 0 6 → 1 ≤ n → n ≤ 8 → 0 < σ.2 4 f → σ.2 5 (30 * f + σ.2 4 f - 1) + n ≤ 120 → ∀ σ2, eqM σ2 (zsA (zsB σ 6 (120 * (30 * f + σ.2 4 f - 1) + σ.2 5 (30 * f + σ.2 4 f - 1)) n (zbm x n)) 5 (30 * f + σ.2 4 f - 1) (σ.2 5 (30 * f + σ.2 4 f - 1) + n)) → Post (some (.int (zI (σ.2 5 (30 * f + σ.2 4 f - 1) + n)))) σ2) : zV G shM mX7_add 0 (zini 7 [.ref (zad G 0), .int (zI f), .long x, .int (zI n)]) [] σ Post := by
  refine z_rg (fun hR => ?_)
  refine z_lv (lv' := [some (.ref (zad G 0)), some (.int (zI f)), some (.long x), none, some (.int (zI n)), none, none]) rfl ?_
  obtain ⟨hgr, hfi, hle, hto, hna, hes, htl, hbg, hca, hsa, hme, hlc, hln, hsg, hrw, hnl, hns, hwd, hlv, hlf, hdi, htk⟩ := hI
  have hlc1 := hlc f
  have hln1 := hln (30 * f + σ.2 4 f - 1)
  refine z_aload_0 dX7_add_0 ?_
  refine z_iconst 0 dX7_add_1 rfl ?_
  refine z_putI (j := 0) dX7_add_2 zp_X7_72 rfl rfl ⟨by decide, by decide⟩ ?_
  refine z_aload_0 dX7_add_5 ?_
  refine z_iload_1 dX7_add_6 ?_
  refine z_callV mX7_isFile [.int (zI f)] dX7_add_7 zk_X7_isFile zl_X7_85 ⟨Nat.le_of_ble_eq_true rfl, Nat.le_of_ble_eq_true rfl⟩ rfl rfl (Nat.le_of_ble_eq_true rfl) (Nat.le_of_ble_eq_true rfl) ?_
  refine M_X7_isFile f (by omega) (fun i1 i2 => ?_) (fun i1 => ?_)
  · refine z_b1 ?_
    have e1 : (zsF σ 0 0 0).1 0 6 = σ.1 0 6 := (zsF_ne (by omega))
    refine z_if_ne (tgt := 15) dX7_add_10 (by decide) ⟨by decide, by decide⟩ (fun c10 => ?_) (fun c10 => by exfalso; omega)
    refine z_iload_4 dX7_add_15 ?_
    refine z_iconst 1 dX7_add_17 rfl ?_
    refine z_icmp_lt (tgt := 28) dX7_add_18 (by decide) (by omega) ⟨by decide, by decide⟩ (fun c18 => ?_) (fun c18 => ?_)
    · refine z_bipush (-2) dX7_add_28 (by decide +kernel) ?_
      refine z_iret dX7_add_30 rfl ?_
      exact zPq (h2 (by omega) (by omega) (by omega)) rfl (eqM.jF (by unfold zJ; omega) eqM.rfl')
    · refine z_iload_4 dX7_add_21 ?_
      refine z_bipush 8 dX7_add_23 (by decide +kernel) ?_
      refine z_icmp_le (tgt := 31) dX7_add_25 (by decide) (by omega) ⟨by decide, by decide⟩ (fun c25 => ?_) (fun c25 => ?_)
      · refine z_aload_0 dX7_add_31 ?_
        refine z_getR (j := 7) dX7_add_32 zf_X7_24 rfl rfl ?_
        refine z_iload_1 dX7_add_35 ?_
        refine z_iald dX7_add_36 rfl (by decide) (by omega) (by omega) ?_
        refine z_top (b := σ.2 4 f) zsF_A ?_
        have w3 : zR (σ.2 4 f) := hR.2 4 f
        refine z_if_ne (tgt := 43) dX7_add_37 (by decide) (by omega) (fun c37 => ?_) (fun c37 => ?_)
        · refine z_bipush 30 dX7_add_43 (by decide +kernel) ?_
          refine z_iload_1 dX7_add_45 ?_
          refine z_imul dX7_add_46 ?_
          refine z_aload_0 dX7_add_47 ?_
          refine z_getR (j := 7) dX7_add_48 zf_X7_24 rfl rfl ?_
          refine z_iload_1 dX7_add_51 ?_
          refine z_iald dX7_add_52 rfl (by decide) (by omega) (by omega) ?_
          refine z_top (b := σ.2 4 f) zsF_A ?_
          have w4 : zR (σ.2 4 f) := hR.2 4 f
          refine z_iadd dX7_add_53 ?_
          refine z_iconst 1 dX7_add_54 rfl ?_
          refine z_isub dX7_add_55 ?_
          refine z_istore_5 dX7_add_56 (Nat.le_of_ble_eq_true rfl) rfl ?_
          refine z_aload_0 dX7_add_58 ?_
          refine z_getR (j := 8) dX7_add_59 zf_X7_27 rfl rfl ?_
          refine z_iload_5 dX7_add_62 ?_
          refine z_iald dX7_add_64 rfl (by decide) (by omega) (by omega) ?_
          refine z_top (b := σ.2 5 (((30 * f) + (σ.2 4 f)) - 1)) zsF_A ?_
          have w5 : zR (σ.2 5 (((30 * f) + (σ.2 4 f)) - 1)) := hR.2 5 (((30 * f) + (σ.2 4 f)) - 1)
          refine z_iload_4 dX7_add_65 ?_
          refine z_iadd dX7_add_67 ?_
          refine z_bipush 120 dX7_add_68 (by decide +kernel) ?_
          refine z_icmp_le (tgt := 76) dX7_add_70 (by decide) (by omega) ⟨by decide, by decide⟩ (fun c70 => ?_) (fun c70 => ?_)
          · refine z_iload_4 dX7_add_76 ?_
            refine z_iconst 1 dX7_add_78 rfl ?_
            refine z_isub dX7_add_79 ?_
            refine z_istore_6 dX7_add_80 (Nat.le_of_ble_eq_true rfl) rfl ?_
            refine z_st (zsB_0 (c := 6) (b := 120 * (30 * f + σ.2 4 f - 1) + σ.2 5 (30 * f + σ.2 4 f - 1)) (g := zbm x n)).symm ?_
            refine z_st (zsA_id (i := 5) (z := 30 * f + σ.2 4 f - 1) (x := σ.2 5 (30 * f + σ.2 4 f - 1) + 0) (by rw [Int.add_zero]; exact (zsB_ne1 (by omega)).trans zsF_A)).symm ?_
            exact L_X7_add f n (30 * f + σ.2 4 f - 1) (σ.2 5 (30 * f + σ.2 4 f - 1)) x (zRg.F hR (by omega)) hf (by omega) (by omega) (by omega) (by omega) (by omega) (by omega) (h1 (by omega) (by omega) (by omega) (by omega) (by omega) (by omega) _ (eqM.A (eqM.B (eqM.jF (by unfold zJ; omega) eqM.rfl')))) n.toNat (n - 1) 0 (by omega) (by omega) (by omega)
          · refine z_bipush (-4) dX7_add_73 (by decide +kernel) ?_
            refine z_iret dX7_add_75 rfl ?_
            exact zPq (h4 (by omega) (by omega) (by omega) (by omega) (by omega) (by omega)) rfl (eqM.jF (by unfold zJ; omega) eqM.rfl')
        · refine z_bipush (-3) dX7_add_40 (by decide +kernel) ?_
          refine z_iret dX7_add_42 rfl ?_
          exact zPq (h3 (by omega) (by omega) (by omega) (by omega) (by omega)) rfl (eqM.jF (by unfold zJ; omega) eqM.rfl')
      · refine z_bipush (-2) dX7_add_28 (by decide +kernel) ?_
        refine z_iret dX7_add_30 rfl ?_
        exact zPq (h2 (by omega) (by omega) (by omega)) rfl (eqM.jF (by unfold zJ; omega) eqM.rfl')
  · refine z_b1 ?_
    have e2 : (zsF σ 0 0 0).1 0 6 = σ.1 0 6 := (zsF_ne (by omega))
    refine z_if_ne (tgt := 15) dX7_add_10 (by decide) ⟨by decide, by decide⟩ (fun c10 => by exfalso; omega) (fun c10 => ?_)
    refine z_iconst (-1) dX7_add_13 rfl ?_
    refine z_iret dX7_add_14 rfl ?_
    exact zPq (hm (by omega)) rfl (eqM.jF (by unfold zJ; omega) eqM.rfl')

set_option maxRecDepth 100000 in
theorem M_X7_open {G : zG} {σ : zSt} {Post : Option Value → zSt → Prop} {N : Int} (hI : zInv N σ) (hN : N ≤ 2000000000) (f : Int) (hf : zR f) (hm : f < 0 ∨ σ.1 0 6 ≤ f → ∀ σ2, eqM σ2 σ → Post (some (.int (zI (-1)))) σ2) (h4 : 0 ≤ f → f < σ.1 0 6 → σ.1 0 10 = 6 → ∀ σ2, eqM σ2 σ → Post (some (.int (zI (-4)))) σ2) (h1 : 0 ≤ f → f < σ.1 0 6 → σ.1 0 10 < 6 → ∀ σ2, eqM σ2 (zsF (zsA (zsA (zsA (zsA σ 7 (σ.1 0 10) f) 8 (σ.1 0 10) (-1)) 12 (σ.1 0 10) (-1)) 13 (σ.1 0 10) 0) 0 10 (σ.1 0 10 + 1)) → Post (some (.int (zI (σ.1 0 10 + 1)))) σ2) : zV G shM mX7_open 0 (zini 2 [.ref (zad G 0), .int (zI f)]) [] σ Post := by
  refine z_rg (fun hR => ?_)
  refine z_lv (lv' := [some (.ref (zad G 0)), some (.int (zI f))]) rfl ?_
  obtain ⟨hgr, hfi, hle, hto, hna, hes, htl, hbg, hca, hsa, hme, hlc, hln, hsg, hrw, hnl, hns, hwd, hlv, hlf, hdi, htk⟩ := hI
  refine z_aload_0 dX7_open_0 ?_
  refine z_iconst 0 dX7_open_1 rfl ?_
  refine z_putI (j := 0) dX7_open_2 zp_X7_72 rfl rfl ⟨by decide, by decide⟩ ?_
  refine z_aload_0 dX7_open_5 ?_
  refine z_iload_1 dX7_open_6 ?_
  refine z_callV mX7_isFile [.int (zI f)] dX7_open_7 zk_X7_isFile zl_X7_85 ⟨Nat.le_of_ble_eq_true rfl, Nat.le_of_ble_eq_true rfl⟩ rfl rfl (Nat.le_of_ble_eq_true rfl) (Nat.le_of_ble_eq_true rfl) ?_
  refine M_X7_isFile f (by omega) (fun i1 i2 => ?_) (fun i1 => ?_)
  · refine z_b1 ?_
    have e1 : (zsF σ 0 0 0).1 0 6 = σ.1 0 6 := (zsF_ne (by omega))
    refine z_if_ne (tgt := 15) dX7_open_10 (by decide) ⟨by decide, by decide⟩ (fun c10 => ?_) (fun c10 => by exfalso; omega)
    refine z_aload_0 dX7_open_15 ?_
    refine z_getI (j := 10) dX7_open_16 zf_X7_90 rfl rfl ?_
    refine z_top (b := σ.1 0 10) (zsF_ne (by omega)) ?_
    have w3 : zR (σ.1 0 10) := hR.1 0 10
    refine z_bipush 6 dX7_open_19 (by decide +kernel) ?_
    refine z_icmp_ne (tgt := 27) dX7_open_21 (by decide) (by omega) ⟨by decide, by decide⟩ (fun c21 => ?_) (fun c21 => ?_)
    · refine z_aload_0 dX7_open_27 ?_
      refine z_getR (j := 11) dX7_open_28 zf_X7_33 rfl rfl ?_
      refine z_aload_0 dX7_open_31 ?_
      refine z_getI (j := 10) dX7_open_32 zf_X7_90 rfl rfl ?_
      refine z_top (b := σ.1 0 10) (zsF_ne (by omega)) ?_
      have w4 : zR (σ.1 0 10) := hR.1 0 10
      refine z_iload_1 dX7_open_35 ?_
      refine z_iast dX7_open_36 rfl (by decide) (by omega) (by omega) (by omega) ?_
      refine z_aload_0 dX7_open_37 ?_
      refine z_getR (j := 12) dX7_open_38 zf_X7_36 rfl rfl ?_
      refine z_aload_0 dX7_open_41 ?_
      refine z_getI (j := 10) dX7_open_42 zf_X7_90 rfl rfl ?_
      refine z_top (b := σ.1 0 10) (zsA_F.trans (zsF_ne (by omega))) ?_
      have w5 : zR (σ.1 0 10) := hR.1 0 10
      refine z_iconst (-1) dX7_open_45 rfl ?_
      refine z_iast dX7_open_46 rfl (by decide) (by omega) (by omega) ⟨by decide, by decide⟩ ?_
      refine z_aload_0 dX7_open_47 ?_
      refine z_getR (j := 16) dX7_open_48 zf_X7_48 rfl rfl ?_
      refine z_aload_0 dX7_open_51 ?_
      refine z_getI (j := 10) dX7_open_52 zf_X7_90 rfl rfl ?_
      refine z_top (b := σ.1 0 10) (zsA_F.trans (zsA_F.trans (zsF_ne (by omega)))) ?_
      have w6 : zR (σ.1 0 10) := hR.1 0 10
      refine z_iconst (-1) dX7_open_55 rfl ?_
      refine z_iast dX7_open_56 rfl (by decide) (by omega) (by omega) ⟨by decide, by decide⟩ ?_
      refine z_aload_0 dX7_open_57 ?_
      refine z_getR (j := 17) dX7_open_58 zf_X7_51 rfl rfl ?_
      refine z_aload_0 dX7_open_61 ?_
      refine z_getI (j := 10) dX7_open_62 zf_X7_90 rfl rfl ?_
      refine z_top (b := σ.1 0 10) (zsA_F.trans (zsA_F.trans (zsA_F.trans (zsF_ne (by omega))))) ?_
      have w7 : zR (σ.1 0 10) := hR.1 0 10
      refine z_iconst 0 dX7_open_65 rfl ?_
      refine z_zast dX7_open_66 rfl (by decide) (by omega) (by omega) (by omega) ?_
      refine z_aload_0 dX7_open_67 ?_
      refine z_dup dX7_open_68 rfl ?_
      refine z_getI (j := 10) dX7_open_69 zf_X7_90 rfl rfl ?_
      refine z_top (b := σ.1 0 10) (zsA_F.trans (zsA_F.trans (zsA_F.trans (zsA_F.trans (zsF_ne (by omega)))))) ?_
      have w8 : zR (σ.1 0 10) := hR.1 0 10
      refine z_iconst 1 dX7_open_72 rfl ?_
      refine z_iadd dX7_open_73 ?_
      refine z_putI (j := 10) dX7_open_74 zp_X7_90 rfl rfl (by omega) ?_
      refine z_aload_0 dX7_open_77 ?_
      refine z_getI (j := 10) dX7_open_78 zf_X7_90 rfl rfl ?_
      refine z_top (b := ((σ.1 0 10) + 1)) zsF_eq ?_
      refine z_iret dX7_open_81 rfl ?_
      exact zPq (h1 (by omega) (by omega) (by omega)) rfl (eqM.F (eqM.A (eqM.A (eqM.A (eqM.A (eqM.jF (by unfold zJ; omega) eqM.rfl'))))))
    · refine z_bipush (-4) dX7_open_24 (by decide +kernel) ?_
      refine z_iret dX7_open_26 rfl ?_
      exact zPq (h4 (by omega) (by omega) (by omega)) rfl (eqM.jF (by unfold zJ; omega) eqM.rfl')
  · refine z_b1 ?_
    have e2 : (zsF σ 0 0 0).1 0 6 = σ.1 0 6 := (zsF_ne (by omega))
    refine z_if_ne (tgt := 15) dX7_open_10 (by decide) ⟨by decide, by decide⟩ (fun c10 => by exfalso; omega) (fun c10 => ?_)
    refine z_iconst (-1) dX7_open_13 rfl ?_
    refine z_iret dX7_open_14 rfl ?_
    exact zPq (hm (by omega)) rfl (eqM.jF (by unfold zJ; omega) eqM.rfl')

set_option maxRecDepth 100000 in
theorem M_X7_close {G : zG} {σ : zSt} {Post : Option Value → zSt → Prop} {N : Int} (hI : zInv N σ) (hN : N ≤ 2000000000) (h0 : σ.1 0 10 = 0 → ∀ σ2, eqM σ2 σ → Post (some (.int (zI (-3)))) σ2) (h1 : 0 < σ.1 0 10 → ∀ σ2, eqM σ2 (zsA σ 13 (σ.1 0 10 - 1) 1) → Post (some (.int (zI 1))) σ2) : zV G shM mX7_close 0 (zini 1 [.ref (zad G 0)]) [] σ Post := by
  refine z_rg (fun hR => ?_)
  refine z_lv (lv' := [some (.ref (zad G 0))]) rfl ?_
  obtain ⟨hgr, hfi, hle, hto, hna, hes, htl, hbg, hca, hsa, hme, hlc, hln, hsg, hrw, hnl, hns, hwd, hlv, hlf, hdi, htk⟩ := hI
  refine z_aload_0 dX7_close_0 ?_
  refine z_iconst 0 dX7_close_1 rfl ?_
  refine z_putI (j := 0) dX7_close_2 zp_X7_72 rfl rfl ⟨by decide, by decide⟩ ?_
  refine z_aload_0 dX7_close_5 ?_
  refine z_getI (j := 10) dX7_close_6 zf_X7_90 rfl rfl ?_
  refine z_top (b := σ.1 0 10) (zsF_ne (by omega)) ?_
  have w1 : zR (σ.1 0 10) := hR.1 0 10
  refine z_if_ne (tgt := 15) dX7_close_9 (by decide) (by omega) (fun c9 => ?_) (fun c9 => ?_)
  · refine z_aload_0 dX7_close_15 ?_
    refine z_getR (j := 17) dX7_close_16 zf_X7_51 rfl rfl ?_
    refine z_aload_0 dX7_close_19 ?_
    refine z_getI (j := 10) dX7_close_20 zf_X7_90 rfl rfl ?_
    refine z_top (b := σ.1 0 10) (zsF_ne (by omega)) ?_
    have w2 : zR (σ.1 0 10) := hR.1 0 10
    refine z_iconst 1 dX7_close_23 rfl ?_
    refine z_isub dX7_close_24 ?_
    refine z_iconst 1 dX7_close_25 rfl ?_
    refine z_zast dX7_close_26 rfl (by decide) (by omega) (by omega) (by omega) ?_
    refine z_iconst 1 dX7_close_27 rfl ?_
    refine z_iret dX7_close_28 rfl ?_
    exact zPq (h1 (by omega)) rfl (eqM.A (eqM.jF (by unfold zJ; omega) eqM.rfl'))
  · refine z_bipush (-3) dX7_close_12 (by decide +kernel) ?_
    refine z_iret dX7_close_14 rfl ?_
    exact zPq (h0 (by omega)) rfl (eqM.jF (by unfold zJ; omega) eqM.rfl')

set_option maxRecDepth 100000 in
theorem M_X7_name {G : zG} {σ : zSt} {Post : Option Value → zSt → Prop} {N : Int} (hI : zInv N σ) (hN : N ≤ 2000000000) (a k : Int) (ha : zR a) (hk : zR k) (h : ∀ σ2, eqM σ2 σ → Post (some (.int (zI (zns (σ.2 15) (σ.2 16) (σ.1 0 21) a k)))) σ2) : zV G shM mX7_name 0 (zini 3 [.ref (zad G 0), .int (zI a), .int (zI k)]) [] σ Post := by
  refine z_rg (fun hR => ?_)
  refine z_lv (lv' := [some (.ref (zad G 0)), some (.int (zI a)), some (.int (zI k))]) rfl ?_
  obtain ⟨hgr, hfi, hle, hto, hna, hes, htl, hbg, hca, hsa, hme, hlc, hln, hsg, hrw, hnl, hns, hwd, hlv, hlf, hdi, htk⟩ := hI
  have hnl1 := hnl a
  refine z_aload_0 dX7_name_0 ?_
  refine z_iconst 0 dX7_name_1 rfl ?_
  refine z_putI (j := 0) dX7_name_2 zp_X7_72 rfl rfl ⟨by decide, by decide⟩ ?_
  refine z_iload_1 dX7_name_5 ?_
  refine z_if_lt (tgt := 45) dX7_name_6 (by decide) (by omega) (fun c6 => ?_) (fun c6 => ?_)
  · refine z_iconst (-1) dX7_name_45 rfl ?_
    refine z_iret dX7_name_46 rfl ?_
    exact zPq (h) (if_neg (by omega)).symm (eqM.jF (by unfold zJ; omega) eqM.rfl')
  · refine z_iload_1 dX7_name_9 ?_
    refine z_aload_0 dX7_name_10 ?_
    refine z_getI (j := 21) dX7_name_11 zf_X7_69 rfl rfl ?_
    refine z_top (b := σ.1 0 21) (zsF_ne (by omega)) ?_
    have w1 : zR (σ.1 0 21) := hR.1 0 21
    refine z_icmp_ge (tgt := 45) dX7_name_14 (by decide) (by omega) (by omega) (fun c14 => ?_) (fun c14 => ?_)
    · refine z_iconst (-1) dX7_name_45 rfl ?_
      refine z_iret dX7_name_46 rfl ?_
      exact zPq (h) (if_neg (by omega)).symm (eqM.jF (by unfold zJ; omega) eqM.rfl')
    · refine z_iload_2 dX7_name_17 ?_
      refine z_if_lt (tgt := 45) dX7_name_18 (by decide) (by omega) (fun c18 => ?_) (fun c18 => ?_)
      · refine z_iconst (-1) dX7_name_45 rfl ?_
        refine z_iret dX7_name_46 rfl ?_
        exact zPq (h) (if_neg (by omega)).symm (eqM.jF (by unfold zJ; omega) eqM.rfl')
      · refine z_iload_2 dX7_name_21 ?_
        refine z_aload_0 dX7_name_22 ?_
        refine z_getR (j := 23) dX7_name_23 zf_X7_60 rfl rfl ?_
        refine z_iload_1 dX7_name_26 ?_
        refine z_iald dX7_name_27 rfl (by decide) (by omega) (by omega) ?_
        refine z_top (b := σ.2 16 a) zsF_A ?_
        have w2 : zR (σ.2 16 a) := hR.2 16 a
        refine z_icmp_ge (tgt := 45) dX7_name_28 (by decide) (by omega) (by omega) (fun c28 => ?_) (fun c28 => ?_)
        · refine z_iconst (-1) dX7_name_45 rfl ?_
          refine z_iret dX7_name_46 rfl ?_
          exact zPq (h) (if_neg (by omega)).symm (eqM.jF (by unfold zJ; omega) eqM.rfl')
        · refine z_aload_0 dX7_name_31 ?_
          refine z_getR (j := 22) dX7_name_32 zf_X7_57 rfl rfl ?_
          refine z_bipush 40 dX7_name_35 (by decide +kernel) ?_
          refine z_iload_1 dX7_name_37 ?_
          refine z_imul dX7_name_38 ?_
          refine z_iload_2 dX7_name_39 ?_
          refine z_iadd dX7_name_40 ?_
          refine z_iald dX7_name_41 rfl (by decide) (by omega) (by omega) ?_
          refine z_top (b := σ.2 15 ((40 * a) + k)) zsF_A ?_
          have w3 : zR (σ.2 15 ((40 * a) + k)) := hR.2 15 ((40 * a) + k)
          refine z_goto (tgt := 46) dX7_name_42 (by decide) ?_
          refine z_iret dX7_name_46 rfl ?_
          exact zPq (h) ((if_pos (by omega)).trans (congrArg (σ.2 15) (show a * 40 + k = 40 * a + k by omega))).symm (eqM.jF (by unfold zJ; omega) eqM.rfl')

set_option maxRecDepth 100000 in
theorem M_X7_told {G : zG} {σ : zSt} {Post : Option Value → zSt → Prop} {N : Int} (hI : zInv N σ) (hN : N ≤ 2000000000) (a k : Int) (ha : zR a) (hk : zR k) (h1 : 0 ≤ a → a < σ.1 0 24 → a < 100 → 0 ≤ k → k < 3 → ∀ σ2, eqM σ2 σ → Post (some (.int (zI (σ.2 17 (3 * a + k))))) σ2) (h0 : ¬ (0 ≤ a ∧ a < σ.1 0 24 ∧ a < 100 ∧ 0 ≤ k ∧ k < 3) → ∀ σ2, eqM σ2 σ → Post (some (.int (zI (-1)))) σ2) : zV G shM mX7_told 0 (zini 3 [.ref (zad G 0), .int (zI a), .int (zI k)]) [] σ Post := by
  refine z_rg (fun hR => ?_)
  refine z_lv (lv' := [some (.ref (zad G 0)), some (.int (zI a)), some (.int (zI k))]) rfl ?_
  obtain ⟨hgr, hfi, hle, hto, hna, hes, htl, hbg, hca, hsa, hme, hlc, hln, hsg, hrw, hnl, hns, hwd, hlv, hlf, hdi, htk⟩ := hI
  refine z_aload_0 dX7_told_0 ?_
  refine z_iconst 0 dX7_told_1 rfl ?_
  refine z_putI (j := 0) dX7_told_2 zp_X7_72 rfl rfl ⟨by decide, by decide⟩ ?_
  refine z_iload_1 dX7_told_5 ?_
  refine z_if_lt (tgt := 45) dX7_told_6 (by decide) (by omega) (fun c6 => ?_) (fun c6 => ?_)
  · refine z_iconst (-1) dX7_told_45 rfl ?_
    refine z_iret dX7_told_46 rfl ?_
    exact zPq (h0 (by omega)) rfl (eqM.jF (by unfold zJ; omega) eqM.rfl')
  · refine z_iload_1 dX7_told_9 ?_
    refine z_aload_0 dX7_told_10 ?_
    refine z_getI (j := 24) dX7_told_11 zf_X7_116 rfl rfl ?_
    refine z_top (b := σ.1 0 24) (zsF_ne (by omega)) ?_
    have w1 : zR (σ.1 0 24) := hR.1 0 24
    refine z_icmp_ge (tgt := 45) dX7_told_14 (by decide) (by omega) (by omega) (fun c14 => ?_) (fun c14 => ?_)
    · refine z_iconst (-1) dX7_told_45 rfl ?_
      refine z_iret dX7_told_46 rfl ?_
      exact zPq (h0 (by omega)) rfl (eqM.jF (by unfold zJ; omega) eqM.rfl')
    · refine z_iload_1 dX7_told_17 ?_
      refine z_bipush 100 dX7_told_18 (by decide +kernel) ?_
      refine z_icmp_ge (tgt := 45) dX7_told_20 (by decide) (by omega) ⟨by decide, by decide⟩ (fun c20 => ?_) (fun c20 => ?_)
      · refine z_iconst (-1) dX7_told_45 rfl ?_
        refine z_iret dX7_told_46 rfl ?_
        exact zPq (h0 (by omega)) rfl (eqM.jF (by unfold zJ; omega) eqM.rfl')
      · refine z_iload_2 dX7_told_23 ?_
        refine z_if_lt (tgt := 45) dX7_told_24 (by decide) (by omega) (fun c24 => ?_) (fun c24 => ?_)
        · refine z_iconst (-1) dX7_told_45 rfl ?_
          refine z_iret dX7_told_46 rfl ?_
          exact zPq (h0 (by omega)) rfl (eqM.jF (by unfold zJ; omega) eqM.rfl')
        · refine z_iload_2 dX7_told_27 ?_
          refine z_iconst 3 dX7_told_28 rfl ?_
          refine z_icmp_ge (tgt := 45) dX7_told_29 (by decide) (by omega) ⟨by decide, by decide⟩ (fun c29 => ?_) (fun c29 => ?_)
          · refine z_iconst (-1) dX7_told_45 rfl ?_
            refine z_iret dX7_told_46 rfl ?_
            exact zPq (h0 (by omega)) rfl (eqM.jF (by unfold zJ; omega) eqM.rfl')
          · refine z_aload_0 dX7_told_32 ?_
            refine z_getR (j := 25) dX7_told_33 zf_X7_63 rfl rfl ?_
            refine z_iconst 3 dX7_told_36 rfl ?_
            refine z_iload_1 dX7_told_37 ?_
            refine z_imul dX7_told_38 ?_
            refine z_iload_2 dX7_told_39 ?_
            refine z_iadd dX7_told_40 ?_
            refine z_iald dX7_told_41 rfl (by decide) (by omega) (by omega) ?_
            refine z_top (b := σ.2 17 ((3 * a) + k)) zsF_A ?_
            have w2 : zR (σ.2 17 ((3 * a) + k)) := hR.2 17 ((3 * a) + k)
            refine z_goto (tgt := 46) dX7_told_42 (by decide) ?_
            refine z_iret dX7_told_46 rfl ?_
            exact zPq (h1 (by omega) (by omega) (by omega) (by omega) (by omega)) rfl (eqM.jF (by unfold zJ; omega) eqM.rfl')

set_option maxRecDepth 100000 in
theorem M_X7_categoryOf {G : zG} {σ : zSt} {Post : Option Value → zSt → Prop} {N : Int} (hI : zInv N σ) (hN : N ≤ 2000000000) (s : Int) (hs : zR s) (h1 : 0 ≤ s → s < 256 → ∀ σ2, eqM σ2 σ → Post (some (.int (zI (σ.2 1 s)))) σ2) (h0 : s < 0 ∨ 256 ≤ s → ∀ σ2, eqM σ2 σ → Post (some (.int (zI (-2)))) σ2) : zV G shM mX7_categoryOf 0 (zini 2 [.ref (zad G 0), .int (zI s)]) [] σ Post := by
  refine z_rg (fun hR => ?_)
  refine z_lv (lv' := [some (.ref (zad G 0)), some (.int (zI s))]) rfl ?_
  obtain ⟨hgr, hfi, hle, hto, hna, hes, htl, hbg, hca, hsa, hme, hlc, hln, hsg, hrw, hnl, hns, hwd, hlv, hlf, hdi, htk⟩ := hI
  refine z_aload_0 dX7_categoryOf_0 ?_
  refine z_iconst 0 dX7_categoryOf_1 rfl ?_
  refine z_putI (j := 0) dX7_categoryOf_2 zp_X7_72 rfl rfl ⟨by decide, by decide⟩ ?_
  refine z_iload_1 dX7_categoryOf_5 ?_
  refine z_callS mX7_isSign [.int (zI s)] dX7_categoryOf_6 zk_X7_isSign zl_X7_75 ⟨Nat.le_of_ble_eq_true rfl, Nat.le_of_ble_eq_true rfl⟩ (Nat.le_of_ble_eq_true rfl) (Nat.le_of_ble_eq_true rfl) ?_
  refine M_X7_isSign s (by omega) (fun i1 i2 => ?_) (fun i1 => ?_)
  · refine z_b1 ?_
    refine z_if_eq (tgt := 21) dX7_categoryOf_9 (by decide) ⟨by decide, by decide⟩ (fun c9 => by exfalso; omega) (fun c9 => ?_)
    refine z_aload_0 dX7_categoryOf_12 ?_
    refine z_getR (j := 1) dX7_categoryOf_13 zf_X7_7 rfl rfl ?_
    refine z_iload_1 dX7_categoryOf_16 ?_
    refine z_iald dX7_categoryOf_17 rfl (by decide) (by omega) (by omega) ?_
    refine z_top (b := σ.2 1 s) zsF_A ?_
    have w1 : zR (σ.2 1 s) := hR.2 1 s
    refine z_goto (tgt := 23) dX7_categoryOf_18 (by decide) ?_
    refine z_iret dX7_categoryOf_23 rfl ?_
    exact zPq (h1 (by omega) (by omega)) rfl (eqM.jF (by unfold zJ; omega) eqM.rfl')
  · refine z_b1 ?_
    refine z_if_eq (tgt := 21) dX7_categoryOf_9 (by decide) ⟨by decide, by decide⟩ (fun c9 => ?_) (fun c9 => by exfalso; omega)
    refine z_bipush (-2) dX7_categoryOf_21 (by decide +kernel) ?_
    refine z_iret dX7_categoryOf_23 rfl ?_
    exact zPq (h0 (by omega)) rfl (eqM.jF (by unfold zJ; omega) eqM.rfl')

set_option maxRecDepth 100000 in
theorem M_X7_state {G : zG} {σ : zSt} {Post : Option Value → zSt → Prop} {N : Int} (hI : zInv N σ) (hN : N ≤ 2000000000) (h0 : σ.1 0 10 = 0 → ∀ σ2, eqM σ2 σ → Post (some (.int (zI (-1)))) σ2) (h1 : 0 < σ.1 0 10 → ∀ σ2, eqM σ2 σ → Post (some (.int (zI (σ.2 12 (σ.1 0 10 - 1))))) σ2) : zV G shM mX7_state 0 (zini 1 [.ref (zad G 0)]) [] σ Post := by
  refine z_rg (fun hR => ?_)
  refine z_lv (lv' := [some (.ref (zad G 0))]) rfl ?_
  obtain ⟨hgr, hfi, hle, hto, hna, hes, htl, hbg, hca, hsa, hme, hlc, hln, hsg, hrw, hnl, hns, hwd, hlv, hlf, hdi, htk⟩ := hI
  refine z_aload_0 dX7_state_0 ?_
  refine z_iconst 0 dX7_state_1 rfl ?_
  refine z_putI (j := 0) dX7_state_2 zp_X7_72 rfl rfl ⟨by decide, by decide⟩ ?_
  refine z_aload_0 dX7_state_5 ?_
  refine z_getI (j := 10) dX7_state_6 zf_X7_90 rfl rfl ?_
  refine z_top (b := σ.1 0 10) (zsF_ne (by omega)) ?_
  have w1 : zR (σ.1 0 10) := hR.1 0 10
  refine z_if_ne (tgt := 16) dX7_state_9 (by decide) (by omega) (fun c9 => ?_) (fun c9 => ?_)
  · refine z_aload_0 dX7_state_16 ?_
    refine z_getR (j := 16) dX7_state_17 zf_X7_48 rfl rfl ?_
    refine z_aload_0 dX7_state_20 ?_
    refine z_getI (j := 10) dX7_state_21 zf_X7_90 rfl rfl ?_
    refine z_top (b := σ.1 0 10) (zsF_ne (by omega)) ?_
    have w2 : zR (σ.1 0 10) := hR.1 0 10
    refine z_iconst 1 dX7_state_24 rfl ?_
    refine z_isub dX7_state_25 ?_
    refine z_iald dX7_state_26 rfl (by decide) (by omega) (by omega) ?_
    refine z_top (b := σ.2 12 ((σ.1 0 10) - 1)) zsF_A ?_
    have w3 : zR (σ.2 12 ((σ.1 0 10) - 1)) := hR.2 12 ((σ.1 0 10) - 1)
    refine z_iret dX7_state_27 rfl ?_
    exact zPq (h1 (by omega)) rfl (eqM.jF (by unfold zJ; omega) eqM.rfl')
  · refine z_iconst (-1) dX7_state_12 rfl ?_
    refine z_goto (tgt := 27) dX7_state_13 (by decide) ?_
    refine z_iret dX7_state_27 rfl ?_
    exact zPq (h0 (by omega)) rfl (eqM.jF (by unfold zJ; omega) eqM.rfl')

set_option maxRecDepth 100000 in
theorem M_X7_check {G : zG} {σ : zSt} {Post : Option Value → zSt → Prop} {N : Int} (hI : zInv N σ) (hN : N ≤ 2000000000) (h : ∀ σ2, eqM σ2 σ → Post (some (.int (zI 1))) σ2) : zV G shM mX7_check 0 (zini 1 [.ref (zad G 0)]) [] σ Post := by
  refine z_rg (fun hR => ?_)
  refine z_lv (lv' := [some (.ref (zad G 0))]) rfl ?_
  obtain ⟨hgr, hfi, hle, hto, hna, hes, htl, hbg, hca, hsa, hme, hlc, hln, hsg, hrw, hnl, hns, hwd, hlv, hlf, hdi, htk⟩ := hI
  refine z_aload_0 dX7_check_0 ?_
  refine z_iconst 0 dX7_check_1 rfl ?_
  refine z_putI (j := 0) dX7_check_2 zp_X7_72 rfl rfl ⟨by decide, by decide⟩ ?_
  refine z_iconst 1 dX7_check_5 rfl ?_
  refine z_iret dX7_check_6 rfl ?_
  exact zPq (h) rfl (eqM.jF (by unfold zJ; omega) eqM.rfl')

set_option maxRecDepth 100000 in
theorem M_X7_token {G : zG} {σ : zSt} {Post : Option Value → zSt → Prop} {N : Int} (hI : zInv N σ) (hN : N ≤ 2000000000) (a k : Int) (ha : zR a) (hk : zR k) (h1 : 0 ≤ a → a < σ.1 0 19 → 0 ≤ k → k < 6 → ∀ σ2, eqM σ2 σ → σ2.1 0 0 = 0 → Post (some (.int (zI (σ.2 14 (6 * a + k))))) σ2) (h0 : ¬ (0 ≤ a ∧ a < σ.1 0 19 ∧ 0 ≤ k ∧ k < 6) → ∀ σ2, eqM σ2 σ → σ2.1 0 0 = 1 → Post (some (.int (zI 0))) σ2) : zV G shM mX7_token 0 (zini 3 [.ref (zad G 0), .int (zI a), .int (zI k)]) [] σ Post := by
  refine z_rg (fun hR => ?_)
  refine z_lv (lv' := [some (.ref (zad G 0)), some (.int (zI a)), some (.int (zI k))]) rfl ?_
  obtain ⟨hgr, hfi, hle, hto, hna, hes, htl, hbg, hca, hsa, hme, hlc, hln, hsg, hrw, hnl, hns, hwd, hlv, hlf, hdi, htk⟩ := hI
  refine z_aload_0 dX7_token_0 ?_
  refine z_iload_1 dX7_token_1 ?_
  refine z_if_lt (tgt := 22) dX7_token_2 (by decide) (by omega) (fun c2 => ?_) (fun c2 => ?_)
  · refine z_iconst 1 dX7_token_22 rfl ?_
    refine z_goto (tgt := 27) dX7_token_23 (by decide) ?_
    refine z_putI (j := 0) dX7_token_27 zp_X7_72 rfl rfl ⟨by decide, by decide⟩ ?_
    refine z_aload_0 dX7_token_30 ?_
    refine z_getI (j := 0) dX7_token_31 zf_X7_72 rfl rfl ?_
    refine z_top (b := 1) zsF_eq ?_
    refine z_iconst 1 dX7_token_34 rfl ?_
    refine z_icmp_ne (tgt := 42) dX7_token_35 (by decide) ⟨by decide, by decide⟩ ⟨by decide, by decide⟩ (fun c35 => by exfalso; omega) (fun c35 => ?_)
    refine z_iconst 0 dX7_token_38 rfl ?_
    refine z_goto (tgt := 53) dX7_token_39 (by decide) ?_
    refine z_iret dX7_token_53 rfl ?_
    exact h0 (by omega) _ (eqM.jF (by unfold zJ; omega) eqM.rfl') zsF_eq
  · refine z_iload_1 dX7_token_5 ?_
    refine z_aload_0 dX7_token_6 ?_
    refine z_getI (j := 19) dX7_token_7 zf_X7_119 rfl rfl ?_
    have w1 : zR (σ.1 0 19) := hR.1 0 19
    refine z_icmp_ge (tgt := 22) dX7_token_10 (by decide) (by omega) (by omega) (fun c10 => ?_) (fun c10 => ?_)
    · refine z_iconst 1 dX7_token_22 rfl ?_
      refine z_goto (tgt := 27) dX7_token_23 (by decide) ?_
      refine z_putI (j := 0) dX7_token_27 zp_X7_72 rfl rfl ⟨by decide, by decide⟩ ?_
      refine z_aload_0 dX7_token_30 ?_
      refine z_getI (j := 0) dX7_token_31 zf_X7_72 rfl rfl ?_
      refine z_top (b := 1) zsF_eq ?_
      refine z_iconst 1 dX7_token_34 rfl ?_
      refine z_icmp_ne (tgt := 42) dX7_token_35 (by decide) ⟨by decide, by decide⟩ ⟨by decide, by decide⟩ (fun c35 => by exfalso; omega) (fun c35 => ?_)
      refine z_iconst 0 dX7_token_38 rfl ?_
      refine z_goto (tgt := 53) dX7_token_39 (by decide) ?_
      refine z_iret dX7_token_53 rfl ?_
      exact h0 (by omega) _ (eqM.jF (by unfold zJ; omega) eqM.rfl') zsF_eq
    · refine z_iload_2 dX7_token_13 ?_
      refine z_if_lt (tgt := 22) dX7_token_14 (by decide) (by omega) (fun c14 => ?_) (fun c14 => ?_)
      · refine z_iconst 1 dX7_token_22 rfl ?_
        refine z_goto (tgt := 27) dX7_token_23 (by decide) ?_
        refine z_putI (j := 0) dX7_token_27 zp_X7_72 rfl rfl ⟨by decide, by decide⟩ ?_
        refine z_aload_0 dX7_token_30 ?_
        refine z_getI (j := 0) dX7_token_31 zf_X7_72 rfl rfl ?_
        refine z_top (b := 1) zsF_eq ?_
        refine z_iconst 1 dX7_token_34 rfl ?_
        refine z_icmp_ne (tgt := 42) dX7_token_35 (by decide) ⟨by decide, by decide⟩ ⟨by decide, by decide⟩ (fun c35 => by exfalso; omega) (fun c35 => ?_)
        refine z_iconst 0 dX7_token_38 rfl ?_
        refine z_goto (tgt := 53) dX7_token_39 (by decide) ?_
        refine z_iret dX7_token_53 rfl ?_
        exact h0 (by omega) _ (eqM.jF (by unfold zJ; omega) eqM.rfl') zsF_eq
      · refine z_iload_2 dX7_token_17 ?_
        refine z_iconst 5 dX7_token_18 rfl ?_
        refine z_icmp_le (tgt := 26) dX7_token_19 (by decide) (by omega) ⟨by decide, by decide⟩ (fun c19 => ?_) (fun c19 => ?_)
        · refine z_iconst 0 dX7_token_26 rfl ?_
          refine z_putI (j := 0) dX7_token_27 zp_X7_72 rfl rfl ⟨by decide, by decide⟩ ?_
          refine z_aload_0 dX7_token_30 ?_
          refine z_getI (j := 0) dX7_token_31 zf_X7_72 rfl rfl ?_
          refine z_top (b := 0) zsF_eq ?_
          refine z_iconst 1 dX7_token_34 rfl ?_
          refine z_icmp_ne (tgt := 42) dX7_token_35 (by decide) ⟨by decide, by decide⟩ ⟨by decide, by decide⟩ (fun c35 => ?_) (fun c35 => by exfalso; omega)
          refine z_aload_0 dX7_token_42 ?_
          refine z_getR (j := 20) dX7_token_43 zf_X7_54 rfl rfl ?_
          refine z_bipush 6 dX7_token_46 (by decide +kernel) ?_
          refine z_iload_1 dX7_token_48 ?_
          refine z_imul dX7_token_49 ?_
          refine z_iload_2 dX7_token_50 ?_
          refine z_iadd dX7_token_51 ?_
          refine z_iald dX7_token_52 rfl (by decide) (by omega) (by omega) ?_
          refine z_top (b := σ.2 14 ((6 * a) + k)) zsF_A ?_
          have w2 : zR (σ.2 14 ((6 * a) + k)) := hR.2 14 ((6 * a) + k)
          refine z_iret dX7_token_53 rfl ?_
          exact h1 (by omega) (by omega) (by omega) (by omega) _ (eqM.jF (by unfold zJ; omega) eqM.rfl') zsF_eq
        · refine z_iconst 1 dX7_token_22 rfl ?_
          refine z_goto (tgt := 27) dX7_token_23 (by decide) ?_
          refine z_putI (j := 0) dX7_token_27 zp_X7_72 rfl rfl ⟨by decide, by decide⟩ ?_
          refine z_aload_0 dX7_token_30 ?_
          refine z_getI (j := 0) dX7_token_31 zf_X7_72 rfl rfl ?_
          refine z_top (b := 1) zsF_eq ?_
          refine z_iconst 1 dX7_token_34 rfl ?_
          refine z_icmp_ne (tgt := 42) dX7_token_35 (by decide) ⟨by decide, by decide⟩ ⟨by decide, by decide⟩ (fun c35 => by exfalso; omega) (fun c35 => ?_)
          refine z_iconst 0 dX7_token_38 rfl ?_
          refine z_goto (tgt := 53) dX7_token_39 (by decide) ?_
          refine z_iret dX7_token_53 rfl ?_
          exact h0 (by omega) _ (eqM.jF (by unfold zJ; omega) eqM.rfl') zsF_eq

set_option maxRecDepth 100000 in
theorem M_X7_count {G : zG} {σ : zSt} {Post : Option Value → zSt → Prop} {N : Int} (hI : zInv N σ) (hN : N ≤ 2000000000) (q : Int) (hq : zR q) (h0 : q = 0 → ∀ σ2, eqM σ2 σ → Post (some (.int (zI (σ.1 0 19)))) σ2) (h1 : q = 1 → ∀ σ2, eqM σ2 σ → Post (some (.int (zI (σ.1 0 21)))) σ2) (h2 : q = 2 → ∀ σ2, eqM σ2 σ → Post (some (.int (zI (σ.1 0 6)))) σ2) (h3 : q = 3 → ∀ σ2, eqM σ2 σ → Post (some (.int (zI (σ.1 0 10)))) σ2) (h4 : q = 4 → ∀ σ2, eqM σ2 σ → Post (some (.int (zI (σ.1 0 3)))) σ2) (h5 : q = 5 → ∀ σ2, eqM σ2 σ → Post (some (.int (zI (σ.1 0 24)))) σ2) (h60 : q = 6 → (σ.1 0 10 = 0 ∨ 0 < σ.1 0 10 ∧ σ.2 12 (σ.1 0 10 - 1) < 0) → ∀ σ2, eqM σ2 σ → Post (some (.int (zI 0))) σ2) (h61 : q = 6 → 0 < σ.1 0 10 → 0 ≤ σ.2 12 (σ.1 0 10 - 1) → ∀ σ2, eqM σ2 σ → Post (some (.int (zI (σ.2 10 (σ.1 0 10 - 1) - σ.2 11 (σ.1 0 10 - 1))))) σ2) (h7 : q = 7 → ∀ σ2, eqM σ2 σ → Post (some (.int (zI (σ.1 0 18)))) σ2) (h8 : q < 0 ∨ 7 < q → ∀ σ2, eqM σ2 σ → Post (some (.int (zI (-2)))) σ2) : zV G shM mX7_count 0 (zini 3 [.ref (zad G 0), .int (zI q)]) [] σ Post := by
  refine z_rg (fun hR => ?_)
  refine z_lv (lv' := [some (.ref (zad G 0)), some (.int (zI q)), none]) rfl ?_
  obtain ⟨hgr, hfi, hle, hto, hna, hes, htl, hbg, hca, hsa, hme, hlc, hln, hsg, hrw, hnl, hns, hwd, hlv, hlf, hdi, htk⟩ := hI
  refine z_aload_0 dX7_count_0 ?_
  refine z_iconst 0 dX7_count_1 rfl ?_
  refine z_putI (j := 0) dX7_count_2 zp_X7_72 rfl rfl ⟨by decide, by decide⟩ ?_
  refine z_aload_0 dX7_count_5 ?_
  refine z_getI (j := 10) dX7_count_6 zf_X7_90 rfl rfl ?_
  refine z_top (b := σ.1 0 10) (zsF_ne (by omega)) ?_
  have w1 : zR (σ.1 0 10) := hR.1 0 10
  refine z_iconst 1 dX7_count_9 rfl ?_
  refine z_isub dX7_count_10 ?_
  refine z_istore_2 dX7_count_11 (Nat.le_of_ble_eq_true rfl) rfl ?_
  refine z_iload_1 dX7_count_12 ?_
  rcases Decidable.em (q = 0) with c13_0 | c13_0
  · refine z_top c13_0 ?_
    refine z_tabIn (tgt := 60) 0 dX7_count_13 (by omega) (by decide) (by decide) rfl (by decide) ?_
    refine z_aload_0 dX7_count_60 ?_
    refine z_getI (j := 19) dX7_count_61 zf_X7_119 rfl rfl ?_
    refine z_top (b := σ.1 0 19) (zsF_ne (by omega)) ?_
    have w2 : zR (σ.1 0 19) := hR.1 0 19
    refine z_iret dX7_count_64 rfl ?_
    exact zPq (h0 (by omega)) rfl (eqM.jF (by unfold zJ; omega) eqM.rfl')
  rcases Decidable.em (q = 1) with c13_1 | c13_1
  · refine z_top c13_1 ?_
    refine z_tabIn (tgt := 65) 1 dX7_count_13 (by omega) (by decide) (by decide) rfl (by decide) ?_
    refine z_aload_0 dX7_count_65 ?_
    refine z_getI (j := 21) dX7_count_66 zf_X7_69 rfl rfl ?_
    refine z_top (b := σ.1 0 21) (zsF_ne (by omega)) ?_
    have w3 : zR (σ.1 0 21) := hR.1 0 21
    refine z_iret dX7_count_69 rfl ?_
    exact zPq (h1 (by omega)) rfl (eqM.jF (by unfold zJ; omega) eqM.rfl')
  rcases Decidable.em (q = 2) with c13_2 | c13_2
  · refine z_top c13_2 ?_
    refine z_tabIn (tgt := 70) 2 dX7_count_13 (by omega) (by decide) (by decide) rfl (by decide) ?_
    refine z_aload_0 dX7_count_70 ?_
    refine z_getI (j := 6) dX7_count_71 zf_X7_82 rfl rfl ?_
    refine z_top (b := σ.1 0 6) (zsF_ne (by omega)) ?_
    have w4 : zR (σ.1 0 6) := hR.1 0 6
    refine z_iret dX7_count_74 rfl ?_
    exact zPq (h2 (by omega)) rfl (eqM.jF (by unfold zJ; omega) eqM.rfl')
  rcases Decidable.em (q = 3) with c13_3 | c13_3
  · refine z_top c13_3 ?_
    refine z_tabIn (tgt := 75) 3 dX7_count_13 (by omega) (by decide) (by decide) rfl (by decide) ?_
    refine z_aload_0 dX7_count_75 ?_
    refine z_getI (j := 10) dX7_count_76 zf_X7_90 rfl rfl ?_
    refine z_top (b := σ.1 0 10) (zsF_ne (by omega)) ?_
    have w5 : zR (σ.1 0 10) := hR.1 0 10
    refine z_iret dX7_count_79 rfl ?_
    exact zPq (h3 (by omega)) rfl (eqM.jF (by unfold zJ; omega) eqM.rfl')
  rcases Decidable.em (q = 4) with c13_4 | c13_4
  · refine z_top c13_4 ?_
    refine z_tabIn (tgt := 80) 4 dX7_count_13 (by omega) (by decide) (by decide) rfl (by decide) ?_
    refine z_aload_0 dX7_count_80 ?_
    refine z_getI (j := 3) dX7_count_81 zf_X7_79 rfl rfl ?_
    refine z_top (b := σ.1 0 3) (zsF_ne (by omega)) ?_
    have w6 : zR (σ.1 0 3) := hR.1 0 3
    refine z_iret dX7_count_84 rfl ?_
    exact zPq (h4 (by omega)) rfl (eqM.jF (by unfold zJ; omega) eqM.rfl')
  rcases Decidable.em (q = 5) with c13_5 | c13_5
  · refine z_top c13_5 ?_
    refine z_tabIn (tgt := 85) 5 dX7_count_13 (by omega) (by decide) (by decide) rfl (by decide) ?_
    refine z_aload_0 dX7_count_85 ?_
    refine z_getI (j := 24) dX7_count_86 zf_X7_116 rfl rfl ?_
    refine z_top (b := σ.1 0 24) (zsF_ne (by omega)) ?_
    have w7 : zR (σ.1 0 24) := hR.1 0 24
    refine z_iret dX7_count_89 rfl ?_
    exact zPq (h5 (by omega)) rfl (eqM.jF (by unfold zJ; omega) eqM.rfl')
  rcases Decidable.em (q = 6) with c13_6 | c13_6
  · refine z_top c13_6 ?_
    refine z_tabIn (tgt := 90) 6 dX7_count_13 (by omega) (by decide) (by decide) rfl (by decide) ?_
    refine z_iload_2 dX7_count_90 ?_
    refine z_if_lt (tgt := 103) dX7_count_91 (by decide) (by omega) (fun c91 => ?_) (fun c91 => ?_)
    · refine z_iconst 0 dX7_count_103 rfl ?_
      refine z_goto (tgt := 120) dX7_count_104 (by decide) ?_
      refine z_iret dX7_count_120 rfl ?_
      exact zPq (h60 (by omega) (by omega)) rfl (eqM.jF (by unfold zJ; omega) eqM.rfl')
    · refine z_aload_0 dX7_count_94 ?_
      refine z_getR (j := 16) dX7_count_95 zf_X7_48 rfl rfl ?_
      refine z_iload_2 dX7_count_98 ?_
      refine z_iald dX7_count_99 rfl (by decide) (by omega) (by omega) ?_
      refine z_top (b := σ.2 12 ((σ.1 0 10) - 1)) zsF_A ?_
      have w8 : zR (σ.2 12 ((σ.1 0 10) - 1)) := hR.2 12 ((σ.1 0 10) - 1)
      refine z_if_ge (tgt := 107) dX7_count_100 (by decide) (by omega) (fun c100 => ?_) (fun c100 => ?_)
      · refine z_aload_0 dX7_count_107 ?_
        refine z_getR (j := 14) dX7_count_108 zf_X7_42 rfl rfl ?_
        refine z_iload_2 dX7_count_111 ?_
        refine z_iald dX7_count_112 rfl (by decide) (by omega) (by omega) ?_
        refine z_top (b := σ.2 10 ((σ.1 0 10) - 1)) zsF_A ?_
        have w9 : zR (σ.2 10 ((σ.1 0 10) - 1)) := hR.2 10 ((σ.1 0 10) - 1)
        refine z_aload_0 dX7_count_113 ?_
        refine z_getR (j := 15) dX7_count_114 zf_X7_45 rfl rfl ?_
        refine z_iload_2 dX7_count_117 ?_
        refine z_iald dX7_count_118 rfl (by decide) (by omega) (by omega) ?_
        refine z_top (b := σ.2 11 ((σ.1 0 10) - 1)) zsF_A ?_
        have w10 : zR (σ.2 11 ((σ.1 0 10) - 1)) := hR.2 11 ((σ.1 0 10) - 1)
        refine z_isub dX7_count_119 ?_
        refine z_iret dX7_count_120 rfl ?_
        exact zPq (h61 (by omega) (by omega) (by omega)) rfl (eqM.jF (by unfold zJ; omega) eqM.rfl')
      · refine z_iconst 0 dX7_count_103 rfl ?_
        refine z_goto (tgt := 120) dX7_count_104 (by decide) ?_
        refine z_iret dX7_count_120 rfl ?_
        exact zPq (h60 (by omega) (by omega)) rfl (eqM.jF (by unfold zJ; omega) eqM.rfl')
  rcases Decidable.em (q = 7) with c13_7 | c13_7
  · refine z_top c13_7 ?_
    refine z_tabIn (tgt := 121) 7 dX7_count_13 (by omega) (by decide) (by decide) rfl (by decide) ?_
    refine z_aload_0 dX7_count_121 ?_
    refine z_getI (j := 18) dX7_count_122 zf_X7_97 rfl rfl ?_
    refine z_top (b := σ.1 0 18) (zsF_ne (by omega)) ?_
    have w11 : zR (σ.1 0 18) := hR.1 0 18
    refine z_iret dX7_count_125 rfl ?_
    exact zPq (h7 (by omega)) rfl (eqM.jF (by unfold zJ; omega) eqM.rfl')
  refine z_tabOut (tgt := 126) dX7_count_13 (by omega) (by omega) (by decide) ?_
  refine z_bipush (-2) dX7_count_126 (by decide +kernel) ?_
  refine z_iret dX7_count_128 rfl ?_
  exact zPq (h8 (by omega)) rfl (eqM.jF (by unfold zJ; omega) eqM.rfl')

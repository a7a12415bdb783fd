theorem zst_ext {row row' : Int → Int} {len : Int} (h : ∀ q, 0 ≤ q → q < len → row q = row' q) (p : Int) : zst row len p = zst row' len p := by
  unfold zst; split
  next e => exact h p e.1 e.2
  next => rfl
theorem zsee_ext {cats row row' : Int → Int} {len : Int} (h : ∀ p, zst row len p = zst row' len p) : ∀ (n : Nat) (s b : Int), zsee cats row len n s b = zsee cats row' len n s b
  | 0, _, _ => rfl
  | n + 1, s, b => by
    rw [zsee, zsee, h, h, h, zsee_ext h n, zsee_ext h n]
theorem N_X1_look {G : zG} {σ : zSt} {Post : Option Value → zSt → Prop} (μ : zSt) (t : Nat) (ht : t < 6) (z : Int) (r : Int × Int) (hr : zgr (μ.2 1) (zmr (μ.2 9) t) (μ.2 10 t) z = r) (hc : σ.2 8 = μ.2 1) (hlen : σ.1 (18 + t) 5 = μ.2 10 t) (hrow : ∀ q, 0 ≤ q → q < μ.2 10 t → σ.2 (24 + t) q = μ.2 9 (128 * t + q)) (hl0 : 0 ≤ μ.2 10 t) (hl : μ.2 10 t ≤ 121) (hz0 : 0 ≤ z) (hz : z ≤ 121) (h : Post none (zsF (zsF σ (18 + t) 8 r.1) (18 + t) 9 r.2)) : zV G shC mX1_look 0 (zini 4 [.ref (zad G (18 + t)), .int (zI z), .ref (zad G 1)]) [] σ Post := by
  have e : zsee (σ.2 8) (σ.2 (24 + t)) (σ.1 (18 + t) 5) (σ.1 (18 + t) 5).toNat (zst (σ.2 (24 + t)) (σ.1 (18 + t) 5) z) (z + 1) = r := by
    have hx := zst_ext (row := σ.2 (24 + t)) (row' := zmr (μ.2 9) t) (len := μ.2 10 t) hrow
    rw [hlen, hc, zsee_ext hx, hx]
    exact hr
  refine M_X1_look t z ht (by omega) (by omega) hz0 hz ?_
  rw [e]
  exact h
theorem zgr_rg {cats row : Int → Int} {len z : Int} {r : Int × Int} (hr : zgr cats row len z = r) (hrow : ∀ q, 0 ≤ row q ∧ row q ≤ 255) (h0 : 0 ≤ z) : (z < len → 0 ≤ r.1 ∧ r.1 ≤ 255 ∧ z + 1 ≤ r.2 ∧ r.2 ≤ len) ∧ (len ≤ z → r = (-1, z + 1)) := by
  refine ⟨fun hz => ?_, fun hz => ?_⟩
  · have hpi : zst row len z = row z := zst_in h0 hz
    have := hrow z
    have q := zsee_rg (cats := cats) (row := row) (len := len) hrow len.toNat (zst row len z) (z + 1) (by omega) (by omega) (by omega) (by omega)
    rw [← hr]; exact q
  · rw [← hr, zgr, zst_out (Or.inr hz)]
    exact zsee_0 (fun q => by have := q.1; rw [zat_out (by omega)] at this; exact absurd this (by decide))
theorem N_X2_copyLine {G : zG} {σ : zSt} {Post : Option Value → zSt → Prop} (f l : Int) (t : Nat) (n : Int) (g : Int → Int) (hg : (fun q => σ.2 12 ((f * 30 + l) * 120 + q)) = g) (hn : ((ztr g (σ.2 11 (f * 30 + l)).toNat : Nat) : Int) = n) (ht : t < 6) (hf0 : 0 ≤ f) (hf : f < σ.1 3 3) (h8 : σ.1 3 3 ≤ 8) (hl0 : 0 ≤ l) (hl : l < σ.2 10 f) (hc1 : σ.2 10 f ≤ 30) (hlr : ∀ r, 0 ≤ σ.2 11 r ∧ σ.2 11 r ≤ 120) (h : Post (some (.int (zI n))) (zsB σ (24 + t) 0 n g)) : zV G shC mX2_copyLine 0 (zini 8 [.ref (zad G 3), .int (zI f), .int (zI l), .ref (zad G (24 + t))]) [] σ Post := by
  subst hg; subst hn
  exact M_X2_copyLine f l t ht hf0 hf h8 hl0 hl hc1 hlr h

set_option maxRecDepth 100000 in
theorem M_X1_beginLine {G : zG} {σ : zSt} {Post : Option Value → zSt → Prop} (t : Nat) (e n : Int) (g : Int → Int) (hg : (fun q => σ.2 12 ((σ.1 (18 + t) 1 * 30 + σ.1 (18 + t) 2) * 120 + q)) = g) (hn : ((ztr g (σ.2 11 (σ.1 (18 + t) 1 * 30 + σ.1 (18 + t) 2)).toNat : Nat) : Int) = n) (hn0 : 0 ≤ n ∧ n ≤ 120) (ht : t < 6) (he : zR e) (hf0 : 0 ≤ σ.1 (18 + t) 1) (hf : σ.1 (18 + t) 1 < σ.1 3 3) (h8 : σ.1 3 3 ≤ 8) (hb0 : 0 ≤ σ.1 (18 + t) 2) (hb : σ.1 (18 + t) 2 < σ.2 10 (σ.1 (18 + t) 1)) (hc1 : σ.2 10 (σ.1 (18 + t) 1) ≤ 30) (hlr : ∀ r, 0 ≤ σ.2 11 r ∧ σ.2 11 r ≤ 120) (h1 : 0 ≤ e → Post none (zsF (zsF (zsF (zsF (zsF (zsA (zsF (zsB σ (24 + t) 0 n g) (18 + t) 5 n) (24 + t) n e) (18 + t) 5 (n + 1)) (18 + t) 2 (σ.1 (18 + t) 2 + 1)) (18 + t) 6 0) (18 + t) 7 0) (18 + t) 4 1)) (h0 : e < 0 → Post none (zsF (zsF (zsF (zsF (zsF (zsB σ (24 + t) 0 n g) (18 + t) 5 n) (18 + t) 2 (σ.1 (18 + t) 2 + 1)) (18 + t) 6 0) (18 + t) 7 0) (18 + t) 4 1)) : zV G shC mX1_beginLine 0 (zini 3 [.ref (zad G (18 + t)), .ref (zad G 3), .int (zI e)]) [] σ Post := by
  refine z_rg (fun hR => ?_)
  refine z_lv (lv' := [some (.ref (zad G (18 + t))), some (.ref (zad G 3)), some (.int (zI e))]) rfl ?_
  refine z_aload_0 dX1_beginLine_0 ?_
  refine z_aload_1 dX1_beginLine_1 ?_
  refine z_aload_0 dX1_beginLine_2 ?_
  refine z_getI (j := 1) dX1_beginLine_3 zf_X1_15 (shC_lv ht) rfl ?_
  have w1 : zR (σ.1 (18 + t) 1) := hR.1 (18 + t) 1
  refine z_aload_0 dX1_beginLine_6 ?_
  refine z_getI (j := 2) dX1_beginLine_7 zf_X1_19 (shC_lv ht) rfl ?_
  have w2 : zR (σ.1 (18 + t) 2) := hR.1 (18 + t) 2
  refine z_aload_0 dX1_beginLine_10 ?_
  refine z_getR (j := 0) dX1_beginLine_11 zf_X1_9 (shC_lv ht) rfl ?_
  refine z_callV mX2_copyLine [.int (zI (σ.1 (18 + t) 1)), .int (zI (σ.1 (18 + t) 2)), .ref (zad G (24 + t))] dX1_beginLine_14 zk_X2_copyLine zl_X1_29 ⟨Nat.le_of_ble_eq_true rfl, Nat.le_of_ble_eq_true rfl⟩ rfl rfl (Nat.le_of_ble_eq_true rfl) (Nat.le_of_ble_eq_true rfl) ?_
  refine N_X2_copyLine (σ.1 (18 + t) 1) (σ.1 (18 + t) 2) t n g hg hn ht hf0 hf h8 hb0 hb hc1 hlr ?_
  refine z_b1 ?_
  refine z_putI (j := 5) dX1_beginLine_17 zp_X1_35 (shC_lv ht) rfl (by omega) ?_
  refine z_iload_2 dX1_beginLine_20 ?_
  refine z_if_lt (tgt := 56) dX1_beginLine_21 (by decide) (by omega) (fun c21 => ?_) (fun c21 => ?_)
  · refine z_aload_0 dX1_beginLine_56 ?_
    refine z_dup dX1_beginLine_57 rfl ?_
    refine z_getI (j := 2) dX1_beginLine_58 zf_X1_19 (shC_lv ht) rfl ?_
    refine z_top (b := σ.1 (18 + t) 2) ((zsF_ne (by omega)).trans zsB_F) ?_
    have w3 : zR (σ.1 (18 + t) 2) := hR.1 (18 + t) 2
    refine z_iconst 1 dX1_beginLine_61 rfl ?_
    refine z_iadd dX1_beginLine_62 ?_
    refine z_putI (j := 2) dX1_beginLine_63 zp_X1_19 (shC_lv ht) rfl (by omega) ?_
    refine z_aload_0 dX1_beginLine_66 ?_
    refine z_iconst 0 dX1_beginLine_67 rfl ?_
    refine z_putI (j := 6) dX1_beginLine_68 zp_X1_38 (shC_lv ht) rfl ⟨by decide, by decide⟩ ?_
    refine z_aload_0 dX1_beginLine_71 ?_
    refine z_iconst 0 dX1_beginLine_72 rfl ?_
    refine z_putI (j := 7) dX1_beginLine_73 zp_X1_41 (shC_lv ht) rfl ⟨by decide, by decide⟩ ?_
    refine z_aload_0 dX1_beginLine_76 ?_
    refine z_iconst 1 dX1_beginLine_77 rfl ?_
    refine z_putZ (j := 4) dX1_beginLine_78 zp_X1_26 (shC_lv ht) rfl (by omega) ?_
    refine z_vret dX1_beginLine_81 rfl ?_
    exact h0 (by omega)
  · refine z_aload_0 dX1_beginLine_24 ?_
    refine z_getI (j := 5) dX1_beginLine_25 zf_X1_35 (shC_lv ht) rfl ?_
    refine z_top (b := n) zsF_eq ?_
    refine z_aload_0 dX1_beginLine_28 ?_
    refine z_getR (j := 0) dX1_beginLine_29 zf_X1_9 (shC_lv ht) rfl ?_
    refine z_alenI dX1_beginLine_32 (shC_la ht) ?_
    refine z_top (b := 121) rfl ?_
    refine z_icmp_ge (tgt := 56) dX1_beginLine_33 (by decide) (by omega) ⟨by decide, by decide⟩ (fun c33 => by exfalso; omega) (fun c33 => ?_)
    refine z_aload_0 dX1_beginLine_36 ?_
    refine z_getR (j := 0) dX1_beginLine_37 zf_X1_9 (shC_lv ht) rfl ?_
    refine z_aload_0 dX1_beginLine_40 ?_
    refine z_getI (j := 5) dX1_beginLine_41 zf_X1_35 (shC_lv ht) rfl ?_
    refine z_top (b := n) zsF_eq ?_
    refine z_iload_2 dX1_beginLine_44 ?_
    refine z_iast dX1_beginLine_45 (shC_la ht) (by decide) (by omega) (by omega) (by omega) ?_
    refine z_aload_0 dX1_beginLine_46 ?_
    refine z_dup dX1_beginLine_47 rfl ?_
    refine z_getI (j := 5) dX1_beginLine_48 zf_X1_35 (shC_lv ht) rfl ?_
    refine z_top (b := n) (zsA_F.trans zsF_eq) ?_
    refine z_iconst 1 dX1_beginLine_51 rfl ?_
    refine z_iadd dX1_beginLine_52 ?_
    refine z_putI (j := 5) dX1_beginLine_53 zp_X1_35 (shC_lv ht) rfl (by omega) ?_
    refine z_aload_0 dX1_beginLine_56 ?_
    refine z_dup dX1_beginLine_57 rfl ?_
    refine z_getI (j := 2) dX1_beginLine_58 zf_X1_19 (shC_lv ht) rfl ?_
    refine z_top (b := σ.1 (18 + t) 2) ((zsF_ne (by omega)).trans (zsA_F.trans ((zsF_ne (by omega)).trans zsB_F))) ?_
    have w4 : zR (σ.1 (18 + t) 2) := hR.1 (18 + t) 2
    refine z_iconst 1 dX1_beginLine_61 rfl ?_
    refine z_iadd dX1_beginLine_62 ?_
    refine z_putI (j := 2) dX1_beginLine_63 zp_X1_19 (shC_lv ht) rfl (by omega) ?_
    refine z_aload_0 dX1_beginLine_66 ?_
    refine z_iconst 0 dX1_beginLine_67 rfl ?_
    refine z_putI (j := 6) dX1_beginLine_68 zp_X1_38 (shC_lv ht) rfl ⟨by decide, by decide⟩ ?_
    refine z_aload_0 dX1_beginLine_71 ?_
    refine z_iconst 0 dX1_beginLine_72 rfl ?_
    refine z_putI (j := 7) dX1_beginLine_73 zp_X1_41 (shC_lv ht) rfl ⟨by decide, by decide⟩ ?_
    refine z_aload_0 dX1_beginLine_76 ?_
    refine z_iconst 1 dX1_beginLine_77 rfl ?_
    refine z_putZ (j := 4) dX1_beginLine_78 zp_X1_26 (shC_lv ht) rfl (by omega) ?_
    refine z_vret dX1_beginLine_81 rfl ?_
    exact h1 (by omega)

set_option maxRecDepth 100000 in
theorem L_X6_levelWithLine {G : zG} {σ : zSt} {Post : Option Value → zSt → Prop} {N : Int} (hN : N ≤ 2000000000) : ∀ (m : Nat) (σ : zSt) (hR : zRg σ) (μ : zSt) (hrel : zRel σ μ) (hI : zInv N μ) (hlev : μ.1 0 10 = (m : Int)) (L : Int) (hL : L = (m : Int)) (y2 : Option Value) (h1 : ∀ (c1 : zSt) (t : Nat), t < 6 → (zhl m μ).1 0 10 = (t : Int) + 1 → zRel c1 (zhl m μ) → Post (some (.ref (zad G (18 + t)))) c1) (h0 : (zhl m μ).1 0 10 ≤ 0 → ∀ c1, zRel c1 (zhl m μ) → Post (some .null) c1), zV G shC mX6_levelWithLine 5 [some (.ref (zad G 0)), some (.int (zI L)), y2] [] σ Post := by
  intro m
  induction m with
  | zero =>
    intro σ hR μ hrel hI hlev L hL y2 h1 h0
    have hle := hI.2.2.1
    refine z_iload_1 dX6_levelWithLine_5 ?_
    refine z_if_le (tgt := 94) dX6_levelWithLine_6 (by decide) (by omega) (fun c6 => ?_) (fun c6 => by exfalso; omega)
    refine z_null dX6_levelWithLine_94 ?_
    refine z_aret dX6_levelWithLine_95 rfl (Or.inl rfl) ?_
    exact h0 (by rw [zhl]; omega) σ hrel
  | succ m ih =>
    intro σ hR μ hrel hI hlev L hL y2 h1 h0
    have hrf := hrel.1
    unfold zRf at hrf
    have hra := hrel.2.1
    unfold zRa at hra
    have hle := hI.2.2.1
    have hfi := hI.2.1
    have hes := hI.2.2.2.2.2.1
    have hbg := hI.2.2.2.2.2.2.2.1
    refine z_iload_1 dX6_levelWithLine_5 ?_
    refine z_if_le (tgt := 94) dX6_levelWithLine_6 (by decide) (by omega) (fun c6 => by exfalso; omega) (fun c6 => ?_)
    refine z_aload_0 dX6_levelWithLine_9 ?_
    refine z_callV mX6_topLevel [] dX6_levelWithLine_10 zk_X6_topLevel zl_X6_102 ⟨Nat.le_of_ble_eq_true rfl, Nat.le_of_ble_eq_true rfl⟩ rfl rfl (Nat.le_of_ble_eq_true rfl) (Nat.le_of_ble_eq_true rfl) ?_
    refine M_X6_topLevel (by omega) (by omega) (fun t ht hte => ?_) (fun hte => by exfalso; omega)
    refine z_b1 ?_
    have etm : t = m := by omega
    subst etm
    have hlv := hrel.2.2 t (by omega)
    have hlf := hI.2.2.2.2.2.2.2.2.2.2.2.2.2.2.2.2.2.2.2.1 (t : Int) (by omega) (by omega)
    have hlc := hI.2.2.2.2.2.2.2.2.2.2.2.1 (μ.2 7 t)
    rw [← hlv.1.1] at hlf hlc
    rw [← hra.2.2.2.1] at hlf hlc
    have hmm := hI.2.2.2.2.2.2.2.2.2.2.2.2.2.2.2.2.2.2.1 (t : Int)
    have hlv1 := hlv.1
    have hlv2 : (μ.2 12 t < 0 ∧ σ.1 (18 + t) 4 = 0) ∨ (0 ≤ μ.2 12 t ∧ σ.1 (18 + t) 4 = 1) := hlv.2.imp id (fun q => ⟨q.1, q.2.1⟩)
    refine z_astore_2 dX6_levelWithLine_13 (Nat.le_of_ble_eq_true rfl) rfl ?_
    refine z_aload_2 dX6_levelWithLine_14 ?_
    refine z_ifnonnull (tgt := 20) dX6_levelWithLine_15 (by decide) ?_
    refine z_aload_2 dX6_levelWithLine_20 ?_
    refine z_getI (j := 4) dX6_levelWithLine_21 zf_X6_133 (shC_lv ht) rfl ?_
    have w1 : zR (σ.1 (18 + t) 4) := hR.1 (18 + t) 4
    refine z_if_eq (tgt := 29) dX6_levelWithLine_24 (by decide) (by omega) (fun c24 => ?_) (fun c24 => ?_)
    · refine z_aload_2 dX6_levelWithLine_29 ?_
      refine z_getI (j := 3) dX6_levelWithLine_30 zf_X6_106 (shC_lv ht) rfl ?_
      have w2 : zR (σ.1 (18 + t) 3) := hR.1 (18 + t) 3
      refine z_if_ne (tgt := 78) dX6_levelWithLine_33 (by decide) (by omega) (fun c33 => ?_) (fun c33 => ?_)
      · refine z_aload_0 dX6_levelWithLine_78 ?_
        refine z_dup dX6_levelWithLine_79 rfl ?_
        refine z_getI (j := 7) dX6_levelWithLine_80 zf_X6_95 rfl rfl ?_
        have w3 : zR (σ.1 0 7) := hR.1 0 7
        refine z_iconst 1 dX6_levelWithLine_83 rfl ?_
        refine z_isub dX6_levelWithLine_84 ?_
        refine z_putI (j := 7) dX6_levelWithLine_85 zp_X6_95 rfl rfl (by omega) ?_
        refine z_iinc_1 dX6_levelWithLine_88 (Nat.le_of_ble_eq_true rfl) rfl ?_
        refine z_goto (tgt := 5) dX6_levelWithLine_91 (by decide) ?_
        have e8 : ¬ 0 ≤ μ.2 12 t := by omega
        have e7 : μ.2 13 t ≠ 0 ∨ μ.2 4 (μ.2 7 t) ≤ μ.2 8 t + 1 := by rw [← hra.2.2.2.1, ← hlv.1.1]; omega
        rw [zhl_pop rfl e8 e7] at h1 h0
        have e9 : σ.1 0 7 - 1 = (t : Int) := by omega
        rw [e9]
        exact ih (zsF σ 0 7 t) (zRg.F hR (by omega)) (zsF μ 0 10 t) (hrel.pop (by omega)) (inv_pop hI t (by omega)) zsF_eq (L + (-1)) (by omega) _ h1 h0
      · refine z_aload_2 dX6_levelWithLine_36 ?_
        refine z_getI (j := 2) dX6_levelWithLine_37 zf_X6_188 (shC_lv ht) rfl ?_
        have w4 : zR (σ.1 (18 + t) 2) := hR.1 (18 + t) 2
        refine z_aload_0 dX6_levelWithLine_40 ?_
        refine z_getR (j := 2) dX6_levelWithLine_41 zf_X6_23 rfl rfl ?_
        refine z_aload_2 dX6_levelWithLine_44 ?_
        refine z_getI (j := 1) dX6_levelWithLine_45 zf_X6_191 (shC_lv ht) rfl ?_
        have w5 : zR (σ.1 (18 + t) 1) := hR.1 (18 + t) 1
        refine z_callV mX2_lineCount [.int (zI (σ.1 (18 + t) 1))] dX6_levelWithLine_48 zk_X2_lineCount zl_X6_194 ⟨Nat.le_of_ble_eq_true rfl, Nat.le_of_ble_eq_true rfl⟩ rfl rfl (Nat.le_of_ble_eq_true rfl) (Nat.le_of_ble_eq_true rfl) ?_
        refine M_X2_lineCount (σ.1 (18 + t) 1) (by omega) (by omega) (fun i1 i2 => ?_) (fun i1 => by exfalso; omega)
        refine z_b1 ?_
        have w6 : zR (σ.2 10 (σ.1 (18 + t) 1)) := hR.2 10 (σ.1 (18 + t) 1)
        refine z_icmp_ge (tgt := 78) dX6_levelWithLine_51 (by decide) (by omega) (by omega) (fun c51 => ?_) (fun c51 => ?_)
        · refine z_aload_0 dX6_levelWithLine_78 ?_
          refine z_dup dX6_levelWithLine_79 rfl ?_
          refine z_getI (j := 7) dX6_levelWithLine_80 zf_X6_95 rfl rfl ?_
          have w7 : zR (σ.1 0 7) := hR.1 0 7
          refine z_iconst 1 dX6_levelWithLine_83 rfl ?_
          refine z_isub dX6_levelWithLine_84 ?_
          refine z_putI (j := 7) dX6_levelWithLine_85 zp_X6_95 rfl rfl (by omega) ?_
          refine z_iinc_1 dX6_levelWithLine_88 (Nat.le_of_ble_eq_true rfl) rfl ?_
          refine z_goto (tgt := 5) dX6_levelWithLine_91 (by decide) ?_
          have e8 : ¬ 0 ≤ μ.2 12 t := by omega
          have e7 : μ.2 13 t ≠ 0 ∨ μ.2 4 (μ.2 7 t) ≤ μ.2 8 t + 1 := by rw [← hra.2.2.2.1, ← hlv.1.1]; omega
          rw [zhl_pop rfl e8 e7] at h1 h0
          have e9 : σ.1 0 7 - 1 = (t : Int) := by omega
          rw [e9]
          exact ih (zsF σ 0 7 t) (zRg.F hR (by omega)) (zsF μ 0 10 t) (hrel.pop (by omega)) (inv_pop hI t (by omega)) zsF_eq (L + (-1)) (by omega) _ h1 h0
        · refine z_aload_2 dX6_levelWithLine_54 ?_
          refine z_aload_0 dX6_levelWithLine_55 ?_
          refine z_getR (j := 2) dX6_levelWithLine_56 zf_X6_23 rfl rfl ?_
          refine z_aload_0 dX6_levelWithLine_59 ?_
          refine z_getI (j := 8) dX6_levelWithLine_60 zf_X6_55 rfl rfl ?_
          have w8 : zR (σ.1 0 8) := hR.1 0 8
          refine z_callV mX1_beginLine [.ref (zad G 3), .int (zI (σ.1 0 8))] dX6_levelWithLine_63 zk_X1_beginLine zl_X6_197 ⟨Nat.le_of_ble_eq_true rfl, Nat.le_of_ble_eq_true rfl⟩ (shC_lv ht) rfl (Nat.le_of_ble_eq_true rfl) (Nat.le_of_ble_eq_true rfl) ?_
          have hz9 := zbn_rg hI (30 * μ.2 7 t + (μ.2 8 t + 1))
          obtain ⟨n, hn9⟩ : ∃ n, zbn μ (30 * μ.2 7 t + (μ.2 8 t + 1)) = n := ⟨_, rfl⟩
          rw [hn9] at hz9
          obtain ⟨g, hg9⟩ : ∃ g, (fun q => μ.2 6 (120 * (30 * μ.2 7 t + (μ.2 8 t + 1)) + q)) = g := ⟨_, rfl⟩
          have hg : (fun q => σ.2 12 ((σ.1 (18 + t) 1 * 30 + σ.1 (18 + t) 2) * 120 + q)) = g := by rw [← hg9, hra.2.2.2.2.2.1, hlv.1.1, hlv.1.2.1]; funext q; rw [show (μ.2 7 t * 30 + (μ.2 8 t + 1)) * 120 + q = 120 * (30 * μ.2 7 t + (μ.2 8 t + 1)) + q by omega]
          have hn : ((ztr g (σ.2 11 (σ.1 (18 + t) 1 * 30 + σ.1 (18 + t) 2)).toNat : Nat) : Int) = n := by rw [← hn9, zbn, hg9, hra.2.2.2.2.1, hlv.1.1, hlv.1.2.1, show μ.2 7 t * 30 + (μ.2 8 t + 1) = (30 * μ.2 7 t + (μ.2 8 t + 1)) by omega]
          refine M_X1_beginLine t (σ.1 0 8) n g hg hn hz9 ht (by omega) (by omega) (by omega) (by omega) (by omega) (by omega) (by omega) (fun q => by rw [hra.2.2.2.2.1]; exact hI.2.2.2.2.2.2.2.2.2.2.2.2.1 q) (fun i1 => ?_) (fun i1 => ?_)
          · refine z_b0 ?_
            refine z_aload_0 dX6_levelWithLine_66 ?_
            refine z_dup dX6_levelWithLine_67 rfl ?_
            refine z_getI (j := 9) dX6_levelWithLine_68 zf_X6_175 rfl rfl ?_
            refine z_top (b := σ.1 0 9) ((zsF_ne (by omega)).trans ((zsF_ne (by omega)).trans ((zsF_ne (by omega)).trans ((zsF_ne (by omega)).trans ((zsF_ne (by omega)).trans (zsA_F.trans ((zsF_ne (by omega)).trans zsB_F))))))) ?_
            have w9 : zR (σ.1 0 9) := hR.1 0 9
            refine z_iconst 1 dX6_levelWithLine_71 rfl ?_
            refine z_iadd dX6_levelWithLine_72 ?_
            refine z_putI (j := 9) dX6_levelWithLine_73 zp_X6_175 rfl rfl (by omega) ?_
            refine z_aload_2 dX6_levelWithLine_76 ?_
            refine z_aret dX6_levelWithLine_77 rfl (Or.inr ⟨_, rfl⟩) ?_
            have e8 : ¬ 0 ≤ μ.2 12 t := by omega
            have e7 : ¬ (μ.2 13 t ≠ 0 ∨ μ.2 4 (μ.2 7 t) ≤ μ.2 8 t + 1) := by rw [← hra.2.2.2.1, ← hlv.1.1]; omega
            rw [zhl_beg rfl e8 e7] at h1
            exact h1 _ t ht ((zbeg_F (by omega)).trans (hlev.trans (by omega))) (zRel.beg hrel (by omega) ht hn9 hz9 (fun q => (hI.2.2.2.2.2.2.2.2.2.2.2.2.2.2.2.2.2.2.1 q).2.2.1) (fun i j q1 q2 => ((zsF_ne (by omega)).trans ((zsF_ne (by omega)).trans ((zsF_ne (by omega)).trans ((zsF_ne (by omega)).trans ((zsF_ne (by omega)).trans ((zsF_ne (by omega)).trans (zsA_F.trans ((zsF_ne (by omega)).trans zsB_F))))))))) (zsF_eq) (((zsF_ne (by omega)).trans ((zsF_ne (by omega)).trans ((zsF_ne (by omega)).trans ((zsF_ne (by omega)).trans ((zsF_ne (by omega)).trans ((zsF_ne (by omega)).trans (zsA_F.trans ((zsF_ne (by omega)).trans zsB_F))))))))) (((zsF_ne (by omega)).trans ((zsF_ne (by omega)).trans ((zsF_ne (by omega)).trans ((zsF_ne (by omega)).trans zsF_eq))))) (((zsF_ne (by omega)).trans ((zsF_ne (by omega)).trans ((zsF_ne (by omega)).trans ((zsF_ne (by omega)).trans ((zsF_ne (by omega)).trans ((zsF_ne (by omega)).trans (zsA_F.trans ((zsF_ne (by omega)).trans zsB_F))))))))) (((zsF_ne (by omega)).trans zsF_eq)) (((zsF_ne (by omega)).trans ((zsF_ne (by omega)).trans ((zsF_ne (by omega)).trans ((zsF_ne (by omega)).trans ((zsF_ne (by omega)).trans zsF_eq))))).trans (if_pos (by omega)).symm) (((zsF_ne (by omega)).trans ((zsF_ne (by omega)).trans ((zsF_ne (by omega)).trans zsF_eq)))) (((zsF_ne (by omega)).trans ((zsF_ne (by omega)).trans zsF_eq))) (fun i q1 => (zsF_W.trans (zsF_W.trans (zsF_W.trans (zsF_W.trans (zsF_W.trans (zsF_W.trans ((zsA_arr q1).trans (zsF_W.trans (zsB_arr q1)))))))))) (fun q q0 q1 => (zsF_A.trans (zsF_A.trans (zsF_A.trans (zsF_A.trans (zsF_A.trans (zsF_A.trans ((zsA_ne1 (by omega)).trans (zsF_A.trans ((zsB_in (by omega) (by omega)).trans (by rw [← hg9, Int.sub_zero]))))))))))) (fun _ => (zsF_A.trans (zsF_A.trans (zsF_A.trans (zsF_A.trans (zsF_A.trans (zsF_A.trans (zsA_eq.trans (by omega))))))))))
          · refine z_b0 ?_
            refine z_aload_0 dX6_levelWithLine_66 ?_
            refine z_dup dX6_levelWithLine_67 rfl ?_
            refine z_getI (j := 9) dX6_levelWithLine_68 zf_X6_175 rfl rfl ?_
            refine z_top (b := σ.1 0 9) ((zsF_ne (by omega)).trans ((zsF_ne (by omega)).trans ((zsF_ne (by omega)).trans ((zsF_ne (by omega)).trans ((zsF_ne (by omega)).trans zsB_F))))) ?_
            have w10 : zR (σ.1 0 9) := hR.1 0 9
            refine z_iconst 1 dX6_levelWithLine_71 rfl ?_
            refine z_iadd dX6_levelWithLine_72 ?_
            refine z_putI (j := 9) dX6_levelWithLine_73 zp_X6_175 rfl rfl (by omega) ?_
            refine z_aload_2 dX6_levelWithLine_76 ?_
            refine z_aret dX6_levelWithLine_77 rfl (Or.inr ⟨_, rfl⟩) ?_
            have e8 : ¬ 0 ≤ μ.2 12 t := by omega
            have e7 : ¬ (μ.2 13 t ≠ 0 ∨ μ.2 4 (μ.2 7 t) ≤ μ.2 8 t + 1) := by rw [← hra.2.2.2.1, ← hlv.1.1]; omega
            rw [zhl_beg rfl e8 e7] at h1
            exact h1 _ t ht ((zbeg_F (by omega)).trans (hlev.trans (by omega))) (zRel.beg hrel (by omega) ht hn9 hz9 (fun q => (hI.2.2.2.2.2.2.2.2.2.2.2.2.2.2.2.2.2.2.1 q).2.2.1) (fun i j q1 q2 => ((zsF_ne (by omega)).trans ((zsF_ne (by omega)).trans ((zsF_ne (by omega)).trans ((zsF_ne (by omega)).trans ((zsF_ne (by omega)).trans ((zsF_ne (by omega)).trans zsB_F))))))) (zsF_eq) (((zsF_ne (by omega)).trans ((zsF_ne (by omega)).trans ((zsF_ne (by omega)).trans ((zsF_ne (by omega)).trans ((zsF_ne (by omega)).trans ((zsF_ne (by omega)).trans zsB_F))))))) (((zsF_ne (by omega)).trans ((zsF_ne (by omega)).trans ((zsF_ne (by omega)).trans ((zsF_ne (by omega)).trans zsF_eq))))) (((zsF_ne (by omega)).trans ((zsF_ne (by omega)).trans ((zsF_ne (by omega)).trans ((zsF_ne (by omega)).trans ((zsF_ne (by omega)).trans ((zsF_ne (by omega)).trans zsB_F))))))) (((zsF_ne (by omega)).trans zsF_eq)) (((zsF_ne (by omega)).trans ((zsF_ne (by omega)).trans ((zsF_ne (by omega)).trans ((zsF_ne (by omega)).trans ((zsF_ne (by omega)).trans zsF_eq))))).trans (if_neg (by omega)).symm) (((zsF_ne (by omega)).trans ((zsF_ne (by omega)).trans ((zsF_ne (by omega)).trans zsF_eq)))) (((zsF_ne (by omega)).trans ((zsF_ne (by omega)).trans zsF_eq))) (fun i q1 => (zsF_W.trans (zsF_W.trans (zsF_W.trans (zsF_W.trans (zsF_W.trans (zsF_W.trans (zsB_arr q1)))))))) (fun q q0 q1 => (zsF_A.trans (zsF_A.trans (zsF_A.trans (zsF_A.trans (zsF_A.trans (zsF_A.trans ((zsB_in (by omega) (by omega)).trans (by rw [← hg9, Int.sub_zero]))))))))) (fun q => absurd q (by omega)))
    · refine z_aload_2 dX6_levelWithLine_27 ?_
      refine z_aret dX6_levelWithLine_28 rfl (Or.inr ⟨_, rfl⟩) ?_
      have e8 : 0 ≤ μ.2 12 t := by omega
      rw [zhl_at rfl e8] at h1
      exact h1 σ t ht (by omega) hrel

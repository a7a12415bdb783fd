set_option maxRecDepth 100000 in
theorem M_X6_draftLetters {G : zG} {σ : zSt} {Post : Option Value → zSt → Prop} (μ : zSt) (t : Nat) (ht : t < 6) (hT : μ.1 0 10 = (t : Int) + 1) (hst : 0 ≤ μ.2 12 t) (hl0 : 0 ≤ μ.2 10 t) (hl : μ.2 10 t ≤ 121) (hrw : ∀ q, 0 ≤ zmr (μ.2 9) t q ∧ zmr (μ.2 9) t q ≤ 255) (hcr : ∀ q, 0 ≤ μ.2 1 q ∧ μ.2 1 q ≤ 15) (p : Int) (D : List Int) (hp0 : 0 ≤ p) (hp1 : p ≤ μ.2 10 t) (hDm : D.length ≤ 100) (hrel : zRel σ (zsA μ 11 t p)) (hd : zdr σ D) (h : ∀ c1, zRel c1 (zsA μ 11 t (zlets (μ.2 1) (zmr (μ.2 9) t) (μ.2 10 t) (μ.2 10 t - p).toNat p).2) → zdr c1 (D ++ (zlets (μ.2 1) (zmr (μ.2 9) t) (μ.2 10 t) (μ.2 10 t - p).toNat p).1) → Post none c1) : zV G shC mX6_draftLetters 0 (zini 3 [.ref (zad G 0), .ref (zad G (18 + t))]) [] σ Post := by
  refine z_rg (fun hR => ?_)
  refine z_lv (lv' := [some (.ref (zad G 0)), some (.ref (zad G (18 + t))), none]) rfl ?_
  have hlv := hrel.2.2 t (by show (t : Int) < μ.1 0 10; omega)
  have hlv2 := hlv.2
  rcases hlv2 with hlv2 | ⟨-, -, hrl, hrp, -, hrr⟩
  · exact absurd hlv2.1 (by show ¬ μ.2 12 t < 0; omega)
  have hrl : σ.1 (18 + t) 5 = μ.2 10 t := hrl
  have hrp : σ.1 (18 + t) 6 = p := hrp.trans zsA_eq
  have hrc : σ.2 8 = μ.2 1 := hrel.2.1.1
  refine z_aload_1 dX6_draftLetters_0 ?_
  refine z_callV mX1_left [] dX6_draftLetters_1 zk_X1_left zl_X6_117 ⟨Nat.le_of_ble_eq_true rfl, Nat.le_of_ble_eq_true rfl⟩ (shC_lv ht) rfl (Nat.le_of_ble_eq_true rfl) (Nat.le_of_ble_eq_true rfl) ?_
  refine M_X1_left t ht (fun i1 => ?_) (fun i1 => ?_)
  · refine z_b1 ?_
    refine z_istore_2 dX6_draftLetters_4 (Nat.le_of_ble_eq_true rfl) rfl ?_
    exact L_X6_draftLetters (σ := σ) μ t ht hT hst hl0 hl hrw hcr (μ.2 10 t - p).toNat σ hR p D (σ.1 (18 + t) 5 - σ.1 (18 + t) 6) (by omega) hp0 hp1 (by omega) (by omega) hrel hd h
  · refine z_b1 ?_
    refine z_istore_2 dX6_draftLetters_4 (Nat.le_of_ble_eq_true rfl) rfl ?_
    exact L_X6_draftLetters (σ := σ) μ t ht hT hst hl0 hl hrw hcr (μ.2 10 t - p).toNat σ hR p D 0 (by omega) hp0 hp1 (by omega) (by omega) hrel hd h

set_option maxRecDepth 100000 in
theorem M_X6_readName {G : zG} {σ : zSt} {Post : Option Value → zSt → Prop} (μ : zSt) (t : Nat) (ht : t < 6) (hT : μ.1 0 10 = (t : Int) + 1) (hst : 0 ≤ μ.2 12 t) (hl0 : 0 ≤ μ.2 10 t) (hl : μ.2 10 t ≤ 121) (hrw : ∀ q, 0 ≤ zmr (μ.2 9) t q ∧ zmr (μ.2 9) t q ≤ 255) (hcr : ∀ q, 0 ≤ μ.2 1 q ∧ μ.2 1 q ≤ 15) (p pl : Int) (hp0 : 0 ≤ p) (hp1 : p ≤ μ.2 10 t) (hpl : zR pl) (hrel : zRel σ (zsA μ 11 t p)) (w : List Int × Int × Int) (hw : zword (μ.2 1) (zmr (μ.2 9) t) (μ.2 10 t) p = w) (hto0 : 0 ≤ μ.1 0 19) (hto : μ.1 0 19 < 600) (htl0 : 0 ≤ μ.1 0 24) (htl : μ.1 0 24 ≤ 2000000000) (hna0 : 1 ≤ μ.1 0 21) (hna1 : μ.1 0 21 ≤ 150) (hnl : ∀ q, 0 ≤ μ.2 16 q ∧ μ.2 16 q ≤ 40) (h8 : -1 ≤ μ.2 8 t) (h : ∀ c1, zRel c1 (if (zname (zsA (zsA (zwY μ w.1) 11 t w.2.1) 12 t w.2.2) (zdl (w.1.length : Int))).1 < 0 then (-4, (zname (zsA (zsA (zwY μ w.1) 11 t w.2.1) 12 t w.2.2) (zdl (w.1.length : Int))).2) else (μ.1 0 19, zkeep (zname (zsA (zsA (zwY μ w.1) 11 t w.2.1) 12 t w.2.2) (zdl (w.1.length : Int))).2 t 1 (zname (zsA (zsA (zwY μ w.1) 11 t w.2.1) 12 t w.2.2) (zdl (w.1.length : Int))).1 0 pl)).2 → Post (some (.int (zI (if (zname (zsA (zsA (zwY μ w.1) 11 t w.2.1) 12 t w.2.2) (zdl (w.1.length : Int))).1 < 0 then (-4, (zname (zsA (zsA (zwY μ w.1) 11 t w.2.1) 12 t w.2.2) (zdl (w.1.length : Int))).2) else (μ.1 0 19, zkeep (zname (zsA (zsA (zwY μ w.1) 11 t w.2.1) 12 t w.2.2) (zdl (w.1.length : Int))).2 t 1 (zname (zsA (zsA (zwY μ w.1) 11 t w.2.1) 12 t w.2.2) (zdl (w.1.length : Int))).1 0 pl)).1))) c1) : zV G shC mX6_readName 0 (zini 5 [.ref (zad G 0), .ref (zad G (18 + t)), .int (zI pl)]) [] σ Post := by
  refine z_rg (fun hR => ?_)
  refine z_lv (lv' := [some (.ref (zad G 0)), some (.ref (zad G (18 + t))), some (.int (zI pl)), none, none]) rfl ?_
  have hlv := hrel.2.2 t (by show (t : Int) < μ.1 0 10; omega)
  have hlv2 := hlv.2
  rcases hlv2 with hlv2 | ⟨-, -, hrl, hrp, -, hrr⟩
  · exact absurd hlv2.1 (by show ¬ μ.2 12 t < 0; omega)
  have hrl : σ.1 (18 + t) 5 = μ.2 10 t := hrl
  have hrp : σ.1 (18 + t) 6 = p := hrp.trans zsA_eq
  have hrc : σ.2 8 = μ.2 1 := hrel.2.1.1
  obtain ⟨r, hr⟩ : ∃ r, zgr (μ.2 1) (zmr (μ.2 9) t) (μ.2 10 t) p = r := ⟨_, rfl⟩
  have hr' := hr
  rw [zgr] at hr'
  have hrg := zgr_rg hr hrw hp0
  have hrgR := zgr_R hrg hp0 hl
  obtain ⟨hrgR1, hrgR2⟩ := hrgR
  have hrgI := zgr_in hrg
  refine z_aload_0 dX6_readName_0 ?_
  refine z_getR (j := 4) dX6_readName_1 zf_X6_37 rfl rfl ?_
  refine z_callV mX3_beginDraft [] dX6_readName_4 zk_X3_beginDraft zl_X6_228 ⟨Nat.le_of_ble_eq_true rfl, Nat.le_of_ble_eq_true rfl⟩ rfl rfl (Nat.le_of_ble_eq_true rfl) (Nat.le_of_ble_eq_true rfl) ?_
  refine M_X3_beginDraft ?_
  refine z_b0 ?_
  refine z_aload_1 dX6_readName_7 ?_
  refine z_aload_1 dX6_readName_8 ?_
  refine z_getI (j := 6) dX6_readName_9 zf_X6_127 (shC_lv ht) rfl ?_
  refine z_top (b := σ.1 (18 + t) 6) (zsF_ne (by omega)) ?_
  have w1 : zR (σ.1 (18 + t) 6) := hR.1 (18 + t) 6
  refine z_top (b := p) (by omega) ?_
  refine z_aload_0 dX6_readName_12 ?_
  refine z_getR (j := 0) dX6_readName_13 zf_X6_10 rfl rfl ?_
  refine z_callV mX1_look [.int (zI p), .ref (zad G 1)] dX6_readName_16 zk_X1_look zl_X6_201 ⟨Nat.le_of_ble_eq_true rfl, Nat.le_of_ble_eq_true rfl⟩ (shC_lv ht) rfl (Nat.le_of_ble_eq_true rfl) (Nat.le_of_ble_eq_true rfl) ?_
  refine N_X1_look μ t ht p r hr hrc ((zsF_ne (by omega)).trans hrl) hrr hl0 hl (by omega) (by omega) ?_
  refine z_b0 ?_
  refine z_aload_0 dX6_readName_19 ?_
  refine z_getR (j := 0) dX6_readName_20 zf_X6_10 rfl rfl ?_
  refine z_aload_1 dX6_readName_23 ?_
  refine z_getI (j := 8) dX6_readName_24 zf_X6_205 (shC_lv ht) rfl ?_
  refine z_top (b := r.1) ((zsF_ne (by omega)).trans zsF_eq) ?_
  refine z_callV mX0_at [.int (zI r.1)] dX6_readName_27 zk_X0_at zl_X6_158 ⟨Nat.le_of_ble_eq_true rfl, Nat.le_of_ble_eq_true rfl⟩ rfl rfl (Nat.le_of_ble_eq_true rfl) (Nat.le_of_ble_eq_true rfl) ?_
  refine M_X0_at r.1 (by omega) ?_
  refine z_b1 ?_
  refine z_top (b := (zat (μ.2 1) r.1)) (congrArg (fun q => zat q r.1) hrc) ?_
  have hza := zat_R3 hcr r.1
  refine z_istore_3 dX6_readName_30 (Nat.le_of_ble_eq_true rfl) rfl ?_
  refine z_iload_3 dX6_readName_31 ?_
  refine z_bipush 11 dX6_readName_32 (by decide +kernel) ?_
  refine z_icmp_ne (tgt := 50) dX6_readName_34 (by decide) (by omega) ⟨by decide, by decide⟩ (fun c34 => ?_) (fun c34 => ?_)
  · refine z_aload_1 dX6_readName_50 ?_
    refine z_getI (j := 8) dX6_readName_51 zf_X6_205 (shC_lv ht) rfl ?_
    refine z_top (b := r.1) ((zsF_ne (by omega)).trans zsF_eq) ?_
    refine z_if_lt (tgt := 94) dX6_readName_54 (by decide) (by omega) (fun c54 => ?_) (fun c54 => ?_)
    · refine z_aload_1 dX6_readName_94 ?_
      refine z_iconst 1 dX6_readName_95 rfl ?_
      refine z_putI (j := 7) dX6_readName_96 zp_X6_161 (shC_lv ht) rfl ⟨by decide, by decide⟩ ?_
      have hq : ¬ p < μ.2 10 t := fun q => by have := hrg.1 q; omega
      have ew : w = ([], p, 1) := by rw [← hw, zword, if_neg (by rw [zst_out (by omega)]; decide)]
      exact L_X6_tail μ t ht hT w pl (zat (μ.2 1) r.1) hpl (by rw [ew]; exact (((zRel.jF (by unfold zCJ; omega) (zRel.jF (by unfold zCJ; omega) (zRel.jF (by unfold zCJ; omega) hrel)))).st ht (by omega) hst)) (by rw [ew]; exact (zdr_F (zdr_F (zdr_F zdr_0 (by omega)) (by omega)) (by omega))) hto0 hto htl0 htl hna0 hna1 hnl h8 h
    · refine z_aload_0 dX6_readName_57 ?_
      refine z_getR (j := 4) dX6_readName_58 zf_X6_37 rfl rfl ?_
      refine z_aload_1 dX6_readName_61 ?_
      refine z_getI (j := 8) dX6_readName_62 zf_X6_205 (shC_lv ht) rfl ?_
      refine z_top (b := r.1) ((zsF_ne (by omega)).trans zsF_eq) ?_
      refine z_callV mX3_growDraft [.int (zI r.1)] dX6_readName_65 zk_X3_growDraft zl_X6_235 ⟨Nat.le_of_ble_eq_true rfl, Nat.le_of_ble_eq_true rfl⟩ rfl rfl (Nat.le_of_ble_eq_true rfl) (Nat.le_of_ble_eq_true rfl) ?_
      refine N_X3_growDraft r.1 (0) ((zsF_ne (by omega)).trans ((zsF_ne (by omega)).trans zsF_eq)) (by omega) (by omega) (by omega) (fun i1 => ?_) (fun i1 => by exfalso; omega)
      refine z_b0 ?_
      refine z_aload_1 dX6_readName_68 ?_
      refine z_aload_1 dX6_readName_69 ?_
      refine z_getI (j := 9) dX6_readName_70 zf_X6_207 (shC_lv ht) rfl ?_
      refine z_top (b := r.2) ((zsF_ne (by omega)).trans (zsA_F.trans zsF_eq)) ?_
      refine z_putI (j := 6) dX6_readName_73 zp_X6_127 (shC_lv ht) rfl (by omega) ?_
      refine z_aload_1 dX6_readName_76 ?_
      refine z_iload_3 dX6_readName_77 ?_
      refine z_bipush 10 dX6_readName_78 (by decide +kernel) ?_
      refine z_icmp_ne (tgt := 87) dX6_readName_80 (by decide) (by omega) ⟨by decide, by decide⟩ (fun c80 => ?_) (fun c80 => ?_)
      · refine z_iconst 1 dX6_readName_87 rfl ?_
        refine z_putI (j := 7) dX6_readName_88 zp_X6_161 (shC_lv ht) rfl ⟨by decide, by decide⟩ ?_
        refine z_goto (tgt := 99) dX6_readName_91 (by decide) ?_
        have hq := hrgI (by omega)
        have hzc : zat (μ.2 1) r.1 = μ.2 1 r.1 := zat_in (by omega) (by omega)
        have ew : w = ([r.1], r.2, 1) := by rw [← hw, zword, if_pos (by rw [zst_in hp0 hq]; exact (hrw p).1), hr', if_neg (by omega), if_neg (by omega)]
        have e54 : (zsF (zsF (zsF σ 5 4 0) (18 + t) 8 r.1) (18 + t) 9 r.2).1 5 4 = 0 := ((zsF_ne (by omega)).trans ((zsF_ne (by omega)).trans zsF_eq))
        have hdq : zdr (zsF (zsF (zsF σ 5 4 0) (18 + t) 8 r.1) (18 + t) 9 r.2) [] := zdr_F (zdr_F zdr_0 (by omega)) (by omega)
        have hdr := zdr_add (s := r.1) hdq (by rw [e54]; decide)
        rw [e54] at hdr
        have hr8 : zRel (zsF (zsA (zsF (zsF (zsF σ 5 4 0) (18 + t) 8 r.1) (18 + t) 9 r.2) 15 0 r.1) 5 4 (0 + 1)) (zsA μ 11 t p) := (zRel.jF (by unfold zCJ; omega) (zRel.jA (zRel.jF (by unfold zCJ; omega) (zRel.jF (by unfold zCJ; omega) (zRel.jF (by unfold zCJ; omega) hrel)))))
        have hr9 := hr8.pl (x := r.2) ht
        rw [zsA_same] at hr9
        exact L_X6_tail μ t ht hT w pl (zat (μ.2 1) r.1) hpl (by rw [ew]; exact (hr9.st ht (by omega) hst)) (by rw [ew]; exact (zdr_F (zdr_F hdr (by omega)) (by omega))) hto0 hto htl0 htl hna0 hna1 hnl h8 h
      · refine z_iconst 2 dX6_readName_83 rfl ?_
        refine z_goto (tgt := 88) dX6_readName_84 (by decide) ?_
        refine z_putI (j := 7) dX6_readName_88 zp_X6_161 (shC_lv ht) rfl ⟨by decide, by decide⟩ ?_
        refine z_goto (tgt := 99) dX6_readName_91 (by decide) ?_
        have hq := hrgI (by omega)
        have hzc : zat (μ.2 1) r.1 = μ.2 1 r.1 := zat_in (by omega) (by omega)
        have ew : w = ([r.1], r.2, 2) := by rw [← hw, zword, if_pos (by rw [zst_in hp0 hq]; exact (hrw p).1), hr', if_neg (by omega), if_pos (by omega)]
        have e54 : (zsF (zsF (zsF σ 5 4 0) (18 + t) 8 r.1) (18 + t) 9 r.2).1 5 4 = 0 := ((zsF_ne (by omega)).trans ((zsF_ne (by omega)).trans zsF_eq))
        have hdq : zdr (zsF (zsF (zsF σ 5 4 0) (18 + t) 8 r.1) (18 + t) 9 r.2) [] := zdr_F (zdr_F zdr_0 (by omega)) (by omega)
        have hdr := zdr_add (s := r.1) hdq (by rw [e54]; decide)
        rw [e54] at hdr
        have hr8 : zRel (zsF (zsA (zsF (zsF (zsF σ 5 4 0) (18 + t) 8 r.1) (18 + t) 9 r.2) 15 0 r.1) 5 4 (0 + 1)) (zsA μ 11 t p) := (zRel.jF (by unfold zCJ; omega) (zRel.jA (zRel.jF (by unfold zCJ; omega) (zRel.jF (by unfold zCJ; omega) (zRel.jF (by unfold zCJ; omega) hrel)))))
        have hr9 := hr8.pl (x := r.2) ht
        rw [zsA_same] at hr9
        exact L_X6_tail μ t ht hT w pl (zat (μ.2 1) r.1) hpl (by rw [ew]; exact (hr9.st ht (by omega) hst)) (by rw [ew]; exact (zdr_F (zdr_F hdr (by omega)) (by omega))) hto0 hto htl0 htl hna0 hna1 hnl h8 h
  · refine z_aload_0 dX6_readName_37 ?_
    refine z_aload_1 dX6_readName_38 ?_
    refine z_callV mX6_draftLetters [.ref (zad G (18 + t))] dX6_readName_39 zk_X6_draftLetters zl_X6_231 ⟨Nat.le_of_ble_eq_true rfl, Nat.le_of_ble_eq_true rfl⟩ rfl rfl (Nat.le_of_ble_eq_true rfl) (Nat.le_of_ble_eq_true rfl) ?_
    refine M_X6_draftLetters μ t ht hT hst hl0 hl hrw hcr p [] hp0 hp1 (by simp) (zRel.jF (by unfold zCJ; omega) (zRel.jF (by unfold zCJ; omega) (zRel.jF (by unfold zCJ; omega) hrel))) (zdr_F (zdr_F zdr_0 (by omega)) (by omega)) (fun c1 hc1 hd1 => ?_)
    refine z_b0 ?_
    refine z_rg (fun hR4 => ?_)
    refine z_aload_1 dX6_readName_42 ?_
    refine z_iconst 2 dX6_readName_43 rfl ?_
    refine z_putI (j := 7) dX6_readName_44 zp_X6_161 (shC_lv ht) rfl ⟨by decide, by decide⟩ ?_
    refine z_goto (tgt := 99) dX6_readName_47 (by decide) ?_
    have hq := hrgI (by omega)
    have ew : w = ((zlets (μ.2 1) (zmr (μ.2 9) t) (μ.2 10 t) (μ.2 10 t - p).toNat p).1, (zlets (μ.2 1) (zmr (μ.2 9) t) (μ.2 10 t) (μ.2 10 t - p).toNat p).2, 2) := by rw [← hw, zword, if_pos (by rw [zst_in hp0 hq]; exact (hrw p).1), if_pos (by rw [hr', ← zat_in (cats := μ.2 1) (s := r.1) (by omega) (by omega)]; exact c34)]
    exact L_X6_tail μ t ht hT w pl (zat (μ.2 1) r.1) hpl (by rw [ew]; exact (zRel.st hc1 ht (by omega) hst)) (by rw [ew]; exact (zdr_F hd1 (by omega))) hto0 hto htl0 htl hna0 hna1 hnl h8 h

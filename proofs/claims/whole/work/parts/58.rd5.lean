def zcv (x : Int) : Int := if x = -1 then -6 else x
theorem zcv_ne {x : Int} (h : x ≠ -1) : zcv x = x := if_neg h
theorem zcv_1 : zcv (-1) = -6 := rfl
theorem N_X6_readName {G : zG} {σ : zSt} {Post : Option Value → zSt → Prop} (μ : zSt) (t : Nat) (ht : t < 6) (hT : μ.1 0 10 = (t : Int) + 1) (hst : 0 ≤ μ.2 12 t) (hl0 : 0 ≤ μ.2 10 t) (hl : μ.2 10 t ≤ 121) (hrw : ∀ q, 0 ≤ zmr (μ.2 9) t q ∧ zmr (μ.2 9) t q ≤ 255) (hcr : ∀ q, 0 ≤ μ.2 1 q ∧ μ.2 1 q ≤ 15) (p pl : Int) (hp0 : 0 ≤ p) (hp1 : p ≤ μ.2 10 t) (hpl : zR pl) (hrel : zRel σ (zsA μ 11 t p)) (w : List Int × Int × Int) (hw : zword (μ.2 1) (zmr (μ.2 9) t) (μ.2 10 t) p = w) (hto0 : 0 ≤ μ.1 0 19) (hto : μ.1 0 19 < 600) (htl0 : 0 ≤ μ.1 0 24) (htl : μ.1 0 24 ≤ 2000000000) (hna0 : 1 ≤ μ.1 0 21) (hna1 : μ.1 0 21 ≤ 150) (hnl : ∀ q, 0 ≤ μ.2 16 q ∧ μ.2 16 q ≤ 40) (h8 : -1 ≤ μ.2 8 t) (v : Int × zSt) (hv : (if (zname (zsA (zsA (zwY μ w.1) 11 t w.2.1) 12 t w.2.2) (zdl (w.1.length : Int))).1 < 0 then (-4, (zname (zsA (zsA (zwY μ w.1) 11 t w.2.1) 12 t w.2.2) (zdl (w.1.length : Int))).2) else (μ.1 0 19, zkeep (zname (zsA (zsA (zwY μ w.1) 11 t w.2.1) 12 t w.2.2) (zdl (w.1.length : Int))).2 t 1 (zname (zsA (zsA (zwY μ w.1) 11 t w.2.1) 12 t w.2.2) (zdl (w.1.length : Int))).1 0 pl)) = v) (h : ∀ c1, zRel c1 v.2 → Post (some (.int (zI v.1))) c1) : zV G shC mX6_readName 0 (zini 5 [.ref (zad G 0), .ref (zad G (18 + t)), .int (zI pl)]) [] σ Post := by
  subst hv
  exact M_X6_readName μ t ht hT hst hl0 hl hrw hcr p pl hp0 hp1 hpl hrel w hw hto0 hto htl0 htl hna0 hna1 hnl h8 h

set_option maxRecDepth 100000 in
theorem L_X6_def {G : zG} {σ : zSt} {Post : Option Value → zSt → Prop} (X : zSt) (t : Nat) (ht : t < 6) (s c pl : Int) (hs : zR s) (hc : zR c) (hpl : zR pl) (hrel : zRel σ X) (hTl : (t : Int) < X.1 0 10) (hst : 0 ≤ X.2 12 t) (hto0 : 0 ≤ X.1 0 19) (hto : X.1 0 19 < 600) (h8 : -1 ≤ X.2 8 t) (h : ∀ c1, zRel c1 (zkeep (zsA X 12 t 1) t 0 s c pl) → Post (some (.int (zI (X.1 0 19)))) c1) : zV G shC mX6_readToken 175 [some (.ref (zad G 0)), some (.ref (zad G (18 + t))), some (.int (zI pl)), some (.int (zI s)), some (.int (zI c))] [] σ Post := by
  refine z_rg (fun hR => ?_)
  have f4 := hrel.1.2.2.2.1
  have hlb := (hrel.2.2 t hTl).1.2.1
  refine z_aload_1 dX6_readToken_175 ?_
  refine z_iconst 1 dX6_readToken_176 rfl ?_
  refine z_putI (j := 7) dX6_readToken_177 zp_X6_161 (shC_lv ht) rfl ⟨by decide, by decide⟩ ?_
  refine z_aload_0 dX6_readToken_180 ?_
  refine z_getR (j := 5) dX6_readToken_181 zf_X6_44 rfl rfl ?_
  refine z_iconst 0 dX6_readToken_184 rfl ?_
  refine z_iload_3 dX6_readToken_185 ?_
  refine z_iload_4 dX6_readToken_186 ?_
  refine z_aload_1 dX6_readToken_188 ?_
  refine z_iload_2 dX6_readToken_189 ?_
  refine z_callV mX5_put [.int (zI 0), .int (zI s), .int (zI c), .ref (zad G (18 + t)), .int (zI pl)] dX6_readToken_190 zk_X5_put zl_X6_136 ⟨Nat.le_of_ble_eq_true rfl, Nat.le_of_ble_eq_true rfl⟩ rfl rfl (Nat.le_of_ble_eq_true rfl) (Nat.le_of_ble_eq_true rfl) ?_
  refine M_X5_putZ 0 s c t pl ht (by omega) (by omega) (by omega) (by omega) (zgeE (b := σ.1 6 1) (zsF_ne (by omega)) (by omega)) (zltE (b := σ.1 6 1) (zsF_ne (by omega)) (by omega)) (zgeE (b := σ.1 (18 + t) 2) (zsF_ne (by omega)) (by omega)) ?_
  refine z_b1 ?_
  refine z_top (b := σ.1 6 1) (zsF_ne (by omega)) ?_
  refine z_iret dX6_readToken_193 rfl ?_
  have rl0 : zRel (zsF σ (18 + t) 7 1) (zsA X 12 t 1) := hrel.st ht (by omega) hst
  have rl1 : zRel (zput (zsF σ (18 + t) 7 1) t 0 s c pl) (zkeep (zsA X 12 t 1) t 0 s c pl) := rl0.put hTl
  exact zPe (h _ rl1) f4

set_option maxRecDepth 100000 in
theorem M_X6_readToken {G : zG} {σ : zSt} {Post : Option Value → zSt → Prop} (μ : zSt) (t : Nat) (ht : t < 6) (hT : μ.1 0 10 = (t : Int) + 1) (hst : 0 ≤ μ.2 12 t) (hl0 : 0 ≤ μ.2 10 t) (hl : μ.2 10 t ≤ 121) (hrw : ∀ q, 0 ≤ zmr (μ.2 9) t q ∧ zmr (μ.2 9) t q ≤ 255) (hcr : ∀ q, 0 ≤ μ.2 1 q ∧ μ.2 1 q ≤ 15) (pl : Int) (hpl0 : 0 ≤ pl) (hpl1 : pl < μ.2 10 t) (hple : μ.2 11 t = pl) (hst2 : μ.2 12 t ≤ 2) (hrel : zRel σ μ) (hto0 : 0 ≤ μ.1 0 19) (hto : μ.1 0 19 < 600) (htl0 : 0 ≤ μ.1 0 24) (htl : μ.1 0 24 ≤ 2000000000) (hna0 : 1 ≤ μ.1 0 21) (hna1 : μ.1 0 21 ≤ 150) (hnl : ∀ q, 0 ≤ μ.2 16 q ∧ μ.2 16 q ≤ 40) (h8 : -1 ≤ μ.2 8 t) (h : ∀ c1, zRel c1 (zgive μ t).2 → Post (some (.int (zI (zcv (zgive μ t).1)))) c1) : zV G shC mX6_readToken 0 (zini 5 [.ref (zad G 0), .ref (zad G (18 + t))]) [] σ Post := by
  refine z_rg (fun hR => ?_)
  refine z_lv (lv' := [some (.ref (zad G 0)), some (.ref (zad G (18 + t))), none, none, none]) rfl ?_
  have hrf := hrel.1
  unfold zRf at hrf
  obtain ⟨f1, f2, f3, f4, f5, f6, f7, f8⟩ := hrf
  have hme := hrel.2.1.2.2.1
  have hTl : (t : Int) < μ.1 0 10 := by omega
  have hlv := hrel.2.2 t hTl
  obtain ⟨⟨hlf, hlb, -⟩, hlv2⟩ := hlv
  rcases hlv2 with hlv2 | ⟨-, -, hrl, hrp, hrs, hrr⟩
  · omega
  rw [hple] at hrp
  have hrc : σ.2 8 = μ.2 1 := hrel.2.1.1
  obtain ⟨r, hr⟩ : ∃ r, zgr (μ.2 1) (zmr (μ.2 9) t) (μ.2 10 t) pl = r := ⟨_, rfl⟩
  have hr' := hr
  rw [zgr] at hr'
  have hrg := zgr_rg hr hrw hpl0
  have hrgR := zgr_R hrg hpl0 hl
  obtain ⟨hrgR1, hrgR2⟩ := hrgR
  have hrgI := zgr_in hrg
  have hz19 : zcv (μ.1 0 19) = μ.1 0 19 := zcv_ne (by omega)
  have hrgq := hrg.1 hpl1
  have hg : zgive μ t = zgive1 μ t r (μ.2 1 r.1) := by rw [zgive, hple, hr]
  rw [hg] at h
  obtain ⟨w, hw⟩ : ∃ w, zword (μ.2 1) (zmr (μ.2 9) t) (μ.2 10 t) r.2 = w := ⟨_, rfl⟩
  have hwd : zgwd μ t = w := by rw [zgwd, hple, hr, hw]
  refine z_aload_1 dX6_readToken_0 ?_
  refine z_getI (j := 6) dX6_readToken_1 zf_X6_127 (shC_lv ht) rfl ?_
  have w1 : zR (σ.1 (18 + t) 6) := hR.1 (18 + t) 6
  refine z_top (b := pl) (by omega) ?_
  refine z_istore_2 dX6_readToken_4 (Nat.le_of_ble_eq_true rfl) rfl ?_
  refine z_aload_1 dX6_readToken_5 ?_
  refine z_iload_2 dX6_readToken_6 ?_
  refine z_aload_0 dX6_readToken_7 ?_
  refine z_getR (j := 0) dX6_readToken_8 zf_X6_10 rfl rfl ?_
  refine z_callV mX1_look [.int (zI pl), .ref (zad G 1)] dX6_readToken_11 zk_X1_look zl_X6_201 ⟨Nat.le_of_ble_eq_true rfl, Nat.le_of_ble_eq_true rfl⟩ (shC_lv ht) rfl (Nat.le_of_ble_eq_true rfl) (Nat.le_of_ble_eq_true rfl) ?_
  refine N_X1_look μ t ht pl r hr hrc hrl hrr hl0 hl (by omega) (by omega) ?_
  refine z_b0 ?_
  refine z_aload_1 dX6_readToken_14 ?_
  refine z_getI (j := 8) dX6_readToken_15 zf_X6_205 (shC_lv ht) rfl ?_
  refine z_top (b := r.1) ((zsF_ne (by omega)).trans zsF_eq) ?_
  refine z_istore_3 dX6_readToken_18 (Nat.le_of_ble_eq_true rfl) rfl ?_
  refine z_aload_0 dX6_readToken_19 ?_
  refine z_getR (j := 0) dX6_readToken_20 zf_X6_10 rfl rfl ?_
  refine z_iload_3 dX6_readToken_23 ?_
  refine z_callV mX0_at [.int (zI r.1)] dX6_readToken_24 zk_X0_at zl_X6_158 ⟨Nat.le_of_ble_eq_true rfl, Nat.le_of_ble_eq_true rfl⟩ rfl rfl (Nat.le_of_ble_eq_true rfl) (Nat.le_of_ble_eq_true rfl) ?_
  refine M_X0_at r.1 (by omega) ?_
  refine z_b1 ?_
  refine z_top (b := (zat (μ.2 1) r.1)) (congrArg (fun q => zat q r.1) hrc) ?_
  have hza := zat_R3 hcr r.1
  have hzc : zat (μ.2 1) r.1 = μ.2 1 r.1 := zat_in (by omega) (by omega)
  have hcc := hcr r.1
  refine z_istore_4 dX6_readToken_27 (Nat.le_of_ble_eq_true rfl) rfl ?_
  refine z_aload_1 dX6_readToken_29 ?_
  refine z_aload_1 dX6_readToken_30 ?_
  refine z_getI (j := 9) dX6_readToken_31 zf_X6_207 (shC_lv ht) rfl ?_
  refine z_top (b := r.2) zsF_eq ?_
  refine z_putI (j := 6) dX6_readToken_34 zp_X6_127 (shC_lv ht) rfl (by omega) ?_
  refine z_iload_4 dX6_readToken_37 ?_
  rcases Decidable.em ((zat (μ.2 1) r.1) = 1) with c39_1 | c39_1
  · refine z_top c39_1 ?_
    refine z_tabIn (tgt := 175) 1 dX6_readToken_39 (by omega) (by decide) (by decide) rfl (by decide) ?_
    rw [zgive1, if_neg (by omega), if_neg (by omega), if_neg (by omega), if_neg (by omega), if_neg (by omega), if_neg (by omega), if_neg (by omega)] at h
    rw [← hzc, hple] at h
    have rl0 : zRel (zsF σ (18 + t) 8 r.1) μ := zRel.jF (by unfold zCJ; omega) hrel
    have rl1 : zRel (zsF (zsF σ (18 + t) 8 r.1) (18 + t) 9 r.2) μ := zRel.jF (by unfold zCJ; omega) rl0
    have rl2 : zRel (zsF (zsF (zsF σ (18 + t) 8 r.1) (18 + t) 9 r.2) (18 + t) 6 r.2) (zsA μ 11 t r.2) := rl1.pl ht
    exact L_X6_def (zsA μ 11 t r.2) t ht r.1 (zat (μ.2 1) r.1) pl (by omega) (by omega) (by omega) rl2 hTl hst hto0 hto h8 (fun c1 q => zPe (h c1 q) (show μ.1 0 19 = zcv (μ.1 0 19) by rw [hz19]))
  rcases Decidable.em ((zat (μ.2 1) r.1) = 2) with c39_2 | c39_2
  · refine z_top c39_2 ?_
    refine z_tabIn (tgt := 175) 2 dX6_readToken_39 (by omega) (by decide) (by decide) rfl (by decide) ?_
    rw [zgive1, if_neg (by omega), if_neg (by omega), if_neg (by omega), if_neg (by omega), if_neg (by omega), if_neg (by omega), if_neg (by omega)] at h
    rw [← hzc, hple] at h
    have rl0 : zRel (zsF σ (18 + t) 8 r.1) μ := zRel.jF (by unfold zCJ; omega) hrel
    have rl1 : zRel (zsF (zsF σ (18 + t) 8 r.1) (18 + t) 9 r.2) μ := zRel.jF (by unfold zCJ; omega) rl0
    have rl2 : zRel (zsF (zsF (zsF σ (18 + t) 8 r.1) (18 + t) 9 r.2) (18 + t) 6 r.2) (zsA μ 11 t r.2) := rl1.pl ht
    exact L_X6_def (zsA μ 11 t r.2) t ht r.1 (zat (μ.2 1) r.1) pl (by omega) (by omega) (by omega) rl2 hTl hst hto0 hto h8 (fun c1 q => zPe (h c1 q) (show μ.1 0 19 = zcv (μ.1 0 19) by rw [hz19]))
  rcases Decidable.em ((zat (μ.2 1) r.1) = 3) with c39_3 | c39_3
  · refine z_top c39_3 ?_
    refine z_tabIn (tgt := 175) 3 dX6_readToken_39 (by omega) (by decide) (by decide) rfl (by decide) ?_
    rw [zgive1, if_neg (by omega), if_neg (by omega), if_neg (by omega), if_neg (by omega), if_neg (by omega), if_neg (by omega), if_neg (by omega)] at h
    rw [← hzc, hple] at h
    have rl0 : zRel (zsF σ (18 + t) 8 r.1) μ := zRel.jF (by unfold zCJ; omega) hrel
    have rl1 : zRel (zsF (zsF σ (18 + t) 8 r.1) (18 + t) 9 r.2) μ := zRel.jF (by unfold zCJ; omega) rl0
    have rl2 : zRel (zsF (zsF (zsF σ (18 + t) 8 r.1) (18 + t) 9 r.2) (18 + t) 6 r.2) (zsA μ 11 t r.2) := rl1.pl ht
    exact L_X6_def (zsA μ 11 t r.2) t ht r.1 (zat (μ.2 1) r.1) pl (by omega) (by omega) (by omega) rl2 hTl hst hto0 hto h8 (fun c1 q => zPe (h c1 q) (show μ.1 0 19 = zcv (μ.1 0 19) by rw [hz19]))
  rcases Decidable.em ((zat (μ.2 1) r.1) = 4) with c39_4 | c39_4
  · refine z_top c39_4 ?_
    refine z_tabIn (tgt := 175) 4 dX6_readToken_39 (by omega) (by decide) (by decide) rfl (by decide) ?_
    rw [zgive1, if_neg (by omega), if_neg (by omega), if_neg (by omega), if_neg (by omega), if_neg (by omega), if_neg (by omega), if_neg (by omega)] at h
    rw [← hzc, hple] at h
    have rl0 : zRel (zsF σ (18 + t) 8 r.1) μ := zRel.jF (by unfold zCJ; omega) hrel
    have rl1 : zRel (zsF (zsF σ (18 + t) 8 r.1) (18 + t) 9 r.2) μ := zRel.jF (by unfold zCJ; omega) rl0
    have rl2 : zRel (zsF (zsF (zsF σ (18 + t) 8 r.1) (18 + t) 9 r.2) (18 + t) 6 r.2) (zsA μ 11 t r.2) := rl1.pl ht
    exact L_X6_def (zsA μ 11 t r.2) t ht r.1 (zat (μ.2 1) r.1) pl (by omega) (by omega) (by omega) rl2 hTl hst hto0 hto h8 (fun c1 q => zPe (h c1 q) (show μ.1 0 19 = zcv (μ.1 0 19) by rw [hz19]))
  rcases Decidable.em ((zat (μ.2 1) r.1) = 6) with c39_6 | c39_6
  · refine z_top c39_6 ?_
    refine z_tabIn (tgt := 175) 6 dX6_readToken_39 (by omega) (by decide) (by decide) rfl (by decide) ?_
    rw [zgive1, if_neg (by omega), if_neg (by omega), if_neg (by omega), if_neg (by omega), if_neg (by omega), if_neg (by omega), if_neg (by omega)] at h
    rw [← hzc, hple] at h
    have rl0 : zRel (zsF σ (18 + t) 8 r.1) μ := zRel.jF (by unfold zCJ; omega) hrel
    have rl1 : zRel (zsF (zsF σ (18 + t) 8 r.1) (18 + t) 9 r.2) μ := zRel.jF (by unfold zCJ; omega) rl0
    have rl2 : zRel (zsF (zsF (zsF σ (18 + t) 8 r.1) (18 + t) 9 r.2) (18 + t) 6 r.2) (zsA μ 11 t r.2) := rl1.pl ht
    exact L_X6_def (zsA μ 11 t r.2) t ht r.1 (zat (μ.2 1) r.1) pl (by omega) (by omega) (by omega) rl2 hTl hst hto0 hto h8 (fun c1 q => zPe (h c1 q) (show μ.1 0 19 = zcv (μ.1 0 19) by rw [hz19]))
  rcases Decidable.em ((zat (μ.2 1) r.1) = 7) with c39_7 | c39_7
  · refine z_top c39_7 ?_
    refine z_tabIn (tgt := 175) 7 dX6_readToken_39 (by omega) (by decide) (by decide) rfl (by decide) ?_
    rw [zgive1, if_neg (by omega), if_neg (by omega), if_neg (by omega), if_neg (by omega), if_neg (by omega), if_neg (by omega), if_neg (by omega)] at h
    rw [← hzc, hple] at h
    have rl0 : zRel (zsF σ (18 + t) 8 r.1) μ := zRel.jF (by unfold zCJ; omega) hrel
    have rl1 : zRel (zsF (zsF σ (18 + t) 8 r.1) (18 + t) 9 r.2) μ := zRel.jF (by unfold zCJ; omega) rl0
    have rl2 : zRel (zsF (zsF (zsF σ (18 + t) 8 r.1) (18 + t) 9 r.2) (18 + t) 6 r.2) (zsA μ 11 t r.2) := rl1.pl ht
    exact L_X6_def (zsA μ 11 t r.2) t ht r.1 (zat (μ.2 1) r.1) pl (by omega) (by omega) (by omega) rl2 hTl hst hto0 hto h8 (fun c1 q => zPe (h c1 q) (show μ.1 0 19 = zcv (μ.1 0 19) by rw [hz19]))
  rcases Decidable.em ((zat (μ.2 1) r.1) = 8) with c39_8 | c39_8
  · refine z_top c39_8 ?_
    refine z_tabIn (tgt := 175) 8 dX6_readToken_39 (by omega) (by decide) (by decide) rfl (by decide) ?_
    rw [zgive1, if_neg (by omega), if_neg (by omega), if_neg (by omega), if_neg (by omega), if_neg (by omega), if_neg (by omega), if_neg (by omega)] at h
    rw [← hzc, hple] at h
    have rl0 : zRel (zsF σ (18 + t) 8 r.1) μ := zRel.jF (by unfold zCJ; omega) hrel
    have rl1 : zRel (zsF (zsF σ (18 + t) 8 r.1) (18 + t) 9 r.2) μ := zRel.jF (by unfold zCJ; omega) rl0
    have rl2 : zRel (zsF (zsF (zsF σ (18 + t) 8 r.1) (18 + t) 9 r.2) (18 + t) 6 r.2) (zsA μ 11 t r.2) := rl1.pl ht
    exact L_X6_def (zsA μ 11 t r.2) t ht r.1 (zat (μ.2 1) r.1) pl (by omega) (by omega) (by omega) rl2 hTl hst hto0 hto h8 (fun c1 q => zPe (h c1 q) (show μ.1 0 19 = zcv (μ.1 0 19) by rw [hz19]))
  rcases Decidable.em ((zat (μ.2 1) r.1) = 11) with c39_11 | c39_11
  · refine z_top c39_11 ?_
    refine z_tabIn (tgt := 175) 11 dX6_readToken_39 (by omega) (by decide) (by decide) rfl (by decide) ?_
    rw [zgive1, if_neg (by omega), if_neg (by omega), if_neg (by omega), if_neg (by omega), if_neg (by omega), if_neg (by omega), if_neg (by omega)] at h
    rw [← hzc, hple] at h
    have rl0 : zRel (zsF σ (18 + t) 8 r.1) μ := zRel.jF (by unfold zCJ; omega) hrel
    have rl1 : zRel (zsF (zsF σ (18 + t) 8 r.1) (18 + t) 9 r.2) μ := zRel.jF (by unfold zCJ; omega) rl0
    have rl2 : zRel (zsF (zsF (zsF σ (18 + t) 8 r.1) (18 + t) 9 r.2) (18 + t) 6 r.2) (zsA μ 11 t r.2) := rl1.pl ht
    exact L_X6_def (zsA μ 11 t r.2) t ht r.1 (zat (μ.2 1) r.1) pl (by omega) (by omega) (by omega) rl2 hTl hst hto0 hto h8 (fun c1 q => zPe (h c1 q) (show μ.1 0 19 = zcv (μ.1 0 19) by rw [hz19]))
  rcases Decidable.em ((zat (μ.2 1) r.1) = 12) with c39_12 | c39_12
  · refine z_top c39_12 ?_
    refine z_tabIn (tgt := 175) 12 dX6_readToken_39 (by omega) (by decide) (by decide) rfl (by decide) ?_
    rw [zgive1, if_neg (by omega), if_neg (by omega), if_neg (by omega), if_neg (by omega), if_neg (by omega), if_neg (by omega), if_neg (by omega)] at h
    rw [← hzc, hple] at h
    have rl0 : zRel (zsF σ (18 + t) 8 r.1) μ := zRel.jF (by unfold zCJ; omega) hrel
    have rl1 : zRel (zsF (zsF σ (18 + t) 8 r.1) (18 + t) 9 r.2) μ := zRel.jF (by unfold zCJ; omega) rl0
    have rl2 : zRel (zsF (zsF (zsF σ (18 + t) 8 r.1) (18 + t) 9 r.2) (18 + t) 6 r.2) (zsA μ 11 t r.2) := rl1.pl ht
    exact L_X6_def (zsA μ 11 t r.2) t ht r.1 (zat (μ.2 1) r.1) pl (by omega) (by omega) (by omega) rl2 hTl hst hto0 hto h8 (fun c1 q => zPe (h c1 q) (show μ.1 0 19 = zcv (μ.1 0 19) by rw [hz19]))
  rcases Decidable.em ((zat (μ.2 1) r.1) = 0) with c39_0 | c39_0
  · refine z_top c39_0 ?_
    refine z_tabIn (tgt := 116) 0 dX6_readToken_39 (by omega) (by decide) (by decide) rfl (by decide) ?_
    refine z_aload_0 dX6_readToken_116 ?_
    refine z_aload_1 dX6_readToken_117 ?_
    refine z_iload_2 dX6_readToken_118 ?_
    refine z_callV mX6_readName [.ref (zad G (18 + t)), .int (zI pl)] dX6_readToken_119 zk_X6_readName zl_X6_210 ⟨Nat.le_of_ble_eq_true rfl, Nat.le_of_ble_eq_true rfl⟩ rfl rfl (Nat.le_of_ble_eq_true rfl) (Nat.le_of_ble_eq_true rfl) ?_
    obtain ⟨v, hv⟩ : ∃ v, (if (zname (zsA (zsA (zwY μ w.1) 11 t w.2.1) 12 t w.2.2) (zdl (w.1.length : Int))).1 < 0 then (-4, (zname (zsA (zsA (zwY μ w.1) 11 t w.2.1) 12 t w.2.2) (zdl (w.1.length : Int))).2) else (μ.1 0 19, zkeep (zname (zsA (zsA (zwY μ w.1) 11 t w.2.1) 12 t w.2.2) (zdl (w.1.length : Int))).2 t 1 (zname (zsA (zsA (zwY μ w.1) 11 t w.2.1) 12 t w.2.2) (zdl (w.1.length : Int))).1 0 pl)) = v := ⟨_, rfl⟩
    have rl0 : zRel (zsF σ (18 + t) 8 r.1) μ := zRel.jF (by unfold zCJ; omega) hrel
    have rl1 : zRel (zsF (zsF σ (18 + t) 8 r.1) (18 + t) 9 r.2) μ := zRel.jF (by unfold zCJ; omega) rl0
    have rl2 : zRel (zsF (zsF (zsF σ (18 + t) 8 r.1) (18 + t) 9 r.2) (18 + t) 6 r.2) (zsA μ 11 t r.2) := rl1.pl ht
    refine N_X6_readName μ t ht hT hst hl0 hl hrw hcr r.2 pl (by omega) (by omega) (by omega) rl2 w hw hto0 hto htl0 htl hna0 hna1 hnl h8 v hv (fun c1 hc1 => ?_)
    refine z_b1 ?_
    refine z_iret dX6_readToken_122 rfl ?_
    rw [zgive1, if_pos (by omega), zgv0, hple, hr, hwd, zrw_Y, hv] at h
    have hvn : v.1 ≠ -1 := by rw [← hv]; split; (show (-4 : Int) ≠ -1); decide; (show μ.1 0 19 ≠ -1); omega
    exact zPe (h c1 hc1) (zcv_ne hvn).symm
  rcases Decidable.em ((zat (μ.2 1) r.1) = 5) with c39_5 | c39_5
  · refine z_top c39_5 ?_
    refine z_tabIn (tgt := 123) 5 dX6_readToken_39 (by omega) (by decide) (by decide) rfl (by decide) ?_
    refine z_aload_0 dX6_readToken_123 ?_
    refine z_aload_1 dX6_readToken_124 ?_
    refine z_iload_2 dX6_readToken_125 ?_
    refine z_callV mX6_readLineEnd [.ref (zad G (18 + t)), .int (zI pl)] dX6_readToken_126 zk_X6_readLineEnd zl_X6_214 ⟨Nat.le_of_ble_eq_true rfl, Nat.le_of_ble_eq_true rfl⟩ rfl rfl (Nat.le_of_ble_eq_true rfl) (Nat.le_of_ble_eq_true rfl) ?_
    refine M_X6_readLineEnd t ht pl (by omega) (zgeE (b := σ.1 6 1) ((zsF_ne (by omega)).trans ((zsF_ne (by omega)).trans (zsF_ne (by omega)))) (by omega)) (zltE (b := σ.1 6 1) ((zsF_ne (by omega)).trans ((zsF_ne (by omega)).trans (zsF_ne (by omega)))) (by omega)) (zgeE (b := σ.1 (18 + t) 2) ((zsF_ne (by omega)).trans ((zsF_ne (by omega)).trans (zsF_ne (by omega)))) (by omega)) (fun i1 => ?_) (fun i1 => ?_) (fun i1 i2 => ?_)
    · refine z_b1 ?_
      refine z_top (b := σ.1 6 1) ((zsF_ne (by omega)).trans ((zsF_ne (by omega)).trans (zsF_ne (by omega)))) ?_
      have e2 : (zsF (zsF (zsF σ (18 + t) 8 r.1) (18 + t) 9 r.2) (18 + t) 6 r.2).1 (18 + t) 7 = σ.1 (18 + t) 7 := ((zsF_ne (by omega)).trans ((zsF_ne (by omega)).trans (zsF_ne (by omega))))
      refine z_iret dX6_readToken_129 rfl ?_
      rw [zgive1, if_neg (by omega), if_pos (by omega), if_pos (by omega)] at h
      rw [hple] at h
      have rl0 : zRel (zsF σ (18 + t) 8 r.1) μ := zRel.jF (by unfold zCJ; omega) hrel
      have rl1 : zRel (zsF (zsF σ (18 + t) 8 r.1) (18 + t) 9 r.2) μ := zRel.jF (by unfold zCJ; omega) rl0
      have rl2 : zRel (zsF (zsF (zsF σ (18 + t) 8 r.1) (18 + t) 9 r.2) (18 + t) 6 r.2) (zsA μ 11 t r.2) := rl1.pl ht
      have rl3 : zRel (zsF (zsF (zsF (zsF σ (18 + t) 8 r.1) (18 + t) 9 r.2) (18 + t) 6 r.2) (18 + t) 4 0) (zsA (zsA μ 11 t r.2) 12 t (-1)) := rl2.ov ht
      have rl4 : zRel (zput (zsF (zsF (zsF (zsF σ (18 + t) 8 r.1) (18 + t) 9 r.2) (18 + t) 6 r.2) (18 + t) 4 0) t 1 0 0 pl) (zkeep (zsA (zsA μ 11 t r.2) 12 t (-1)) t 1 0 0 pl) := rl3.put hTl
      exact zPe (h _ rl4) (by show _ = zcv (μ.1 0 19); rw [hz19]; omega)
    · refine z_b1 ?_
      refine z_top (b := σ.1 6 1) ((zsF_ne (by omega)).trans ((zsF_ne (by omega)).trans (zsF_ne (by omega)))) ?_
      have e3 : (zsF (zsF (zsF σ (18 + t) 8 r.1) (18 + t) 9 r.2) (18 + t) 6 r.2).1 (18 + t) 7 = σ.1 (18 + t) 7 := ((zsF_ne (by omega)).trans ((zsF_ne (by omega)).trans (zsF_ne (by omega))))
      refine z_iret dX6_readToken_129 rfl ?_
      rw [zgive1, if_neg (by omega), if_pos (by omega), if_neg (by omega), if_pos (by omega)] at h
      rw [hple] at h
      have rl0 : zRel (zsF σ (18 + t) 8 r.1) μ := zRel.jF (by unfold zCJ; omega) hrel
      have rl1 : zRel (zsF (zsF σ (18 + t) 8 r.1) (18 + t) 9 r.2) μ := zRel.jF (by unfold zCJ; omega) rl0
      have rl2 : zRel (zsF (zsF (zsF σ (18 + t) 8 r.1) (18 + t) 9 r.2) (18 + t) 6 r.2) (zsA μ 11 t r.2) := rl1.pl ht
      have rl3 : zRel (zsF (zsF (zsF (zsF σ (18 + t) 8 r.1) (18 + t) 9 r.2) (18 + t) 6 r.2) (18 + t) 4 0) (zsA (zsA μ 11 t r.2) 12 t (-1)) := rl2.ov ht
      have rl4 : zRel (zput (zsF (zsF (zsF (zsF σ (18 + t) 8 r.1) (18 + t) 9 r.2) (18 + t) 6 r.2) (18 + t) 4 0) t 0 32 10 pl) (zkeep (zsA (zsA μ 11 t r.2) 12 t (-1)) t 0 32 10 pl) := rl3.put hTl
      exact zPe (h _ rl4) (by show _ = zcv (μ.1 0 19); rw [hz19]; omega)
    · refine z_b1 ?_
      have e4 : (zsF (zsF (zsF σ (18 + t) 8 r.1) (18 + t) 9 r.2) (18 + t) 6 r.2).1 (18 + t) 7 = σ.1 (18 + t) 7 := ((zsF_ne (by omega)).trans ((zsF_ne (by omega)).trans (zsF_ne (by omega))))
      refine z_iret dX6_readToken_129 rfl ?_
      rw [zgive1, if_neg (by omega), if_pos (by omega), if_neg (by omega), if_neg (by omega)] at h
      have rl0 : zRel (zsF σ (18 + t) 8 r.1) μ := zRel.jF (by unfold zCJ; omega) hrel
      have rl1 : zRel (zsF (zsF σ (18 + t) 8 r.1) (18 + t) 9 r.2) μ := zRel.jF (by unfold zCJ; omega) rl0
      have rl2 : zRel (zsF (zsF (zsF σ (18 + t) 8 r.1) (18 + t) 9 r.2) (18 + t) 6 r.2) (zsA μ 11 t r.2) := rl1.pl ht
      have rl3 : zRel (zsF (zsF (zsF (zsF σ (18 + t) 8 r.1) (18 + t) 9 r.2) (18 + t) 6 r.2) (18 + t) 4 0) (zsA (zsA μ 11 t r.2) 12 t (-1)) := rl2.ov ht
      exact zPe (h _ rl3) (show (-6 : Int) = zcv (-1) from rfl)
  rcases Decidable.em ((zat (μ.2 1) r.1) = 9) with c39_9 | c39_9
  · refine z_top c39_9 ?_
    refine z_tabIn (tgt := 130) 9 dX6_readToken_39 (by omega) (by decide) (by decide) rfl (by decide) ?_
    refine z_bipush (-6) dX6_readToken_130 (by decide +kernel) ?_
    refine z_iret dX6_readToken_132 rfl ?_
    rw [zgive1, if_neg (by omega), if_neg (by omega), if_pos (by omega)] at h
    have rl0 : zRel (zsF σ (18 + t) 8 r.1) μ := zRel.jF (by unfold zCJ; omega) hrel
    have rl1 : zRel (zsF (zsF σ (18 + t) 8 r.1) (18 + t) 9 r.2) μ := zRel.jF (by unfold zCJ; omega) rl0
    have rl2 : zRel (zsF (zsF (zsF σ (18 + t) 8 r.1) (18 + t) 9 r.2) (18 + t) 6 r.2) (zsA μ 11 t r.2) := rl1.pl ht
    exact zPe (h _ rl2) (show (-6 : Int) = zcv (-1) from rfl)
  rcases Decidable.em ((zat (μ.2 1) r.1) = 10) with c39_10 | c39_10
  · refine z_top c39_10 ?_
    refine z_tabIn (tgt := 133) 10 dX6_readToken_39 (by omega) (by decide) (by decide) rfl (by decide) ?_
    refine z_aload_0 dX6_readToken_133 ?_
    refine z_aload_1 dX6_readToken_134 ?_
    refine z_iload_2 dX6_readToken_135 ?_
    refine z_callV mX6_readBlank [.ref (zad G (18 + t)), .int (zI pl)] dX6_readToken_136 zk_X6_readBlank zl_X6_217 ⟨Nat.le_of_ble_eq_true rfl, Nat.le_of_ble_eq_true rfl⟩ rfl rfl (Nat.le_of_ble_eq_true rfl) (Nat.le_of_ble_eq_true rfl) ?_
    refine M_X6_readBlank t ht pl (by omega) (zgeE (b := σ.1 6 1) ((zsF_ne (by omega)).trans ((zsF_ne (by omega)).trans (zsF_ne (by omega)))) (by omega)) (zltE (b := σ.1 6 1) ((zsF_ne (by omega)).trans ((zsF_ne (by omega)).trans (zsF_ne (by omega)))) (by omega)) (zgeE (b := σ.1 (18 + t) 2) ((zsF_ne (by omega)).trans ((zsF_ne (by omega)).trans (zsF_ne (by omega)))) (by omega)) (fun i1 => ?_) (fun i1 => ?_)
    · refine z_b1 ?_
      have e5 : (zsF (zsF (zsF σ (18 + t) 8 r.1) (18 + t) 9 r.2) (18 + t) 6 r.2).1 (18 + t) 7 = σ.1 (18 + t) 7 := ((zsF_ne (by omega)).trans ((zsF_ne (by omega)).trans (zsF_ne (by omega))))
      refine z_iret dX6_readToken_139 rfl ?_
      rw [zgive1, if_neg (by omega), if_neg (by omega), if_neg (by omega), if_pos (by omega), if_neg (by omega)] at h
      rw [zsA_id (show (zsA μ 11 t r.2).2 12 t = μ.2 12 t from rfl)] at h
      have rl0 : zRel (zsF σ (18 + t) 8 r.1) μ := zRel.jF (by unfold zCJ; omega) hrel
      have rl1 : zRel (zsF (zsF σ (18 + t) 8 r.1) (18 + t) 9 r.2) μ := zRel.jF (by unfold zCJ; omega) rl0
      have rl2 : zRel (zsF (zsF (zsF σ (18 + t) 8 r.1) (18 + t) 9 r.2) (18 + t) 6 r.2) (zsA μ 11 t r.2) := rl1.pl ht
      exact h _ rl2
    · refine z_b1 ?_
      refine z_top (b := σ.1 6 1) ((zsF_ne (by omega)).trans ((zsF_ne (by omega)).trans (zsF_ne (by omega)))) ?_
      have e6 : (zsF (zsF (zsF σ (18 + t) 8 r.1) (18 + t) 9 r.2) (18 + t) 6 r.2).1 (18 + t) 7 = σ.1 (18 + t) 7 := ((zsF_ne (by omega)).trans ((zsF_ne (by omega)).trans (zsF_ne (by omega))))
      refine z_iret dX6_readToken_139 rfl ?_
      rw [zgive1, if_neg (by omega), if_neg (by omega), if_neg (by omega), if_pos (by omega), if_pos (by omega)] at h
      rw [hple] at h
      have rl0 : zRel (zsF σ (18 + t) 8 r.1) μ := zRel.jF (by unfold zCJ; omega) hrel
      have rl1 : zRel (zsF (zsF σ (18 + t) 8 r.1) (18 + t) 9 r.2) μ := zRel.jF (by unfold zCJ; omega) rl0
      have rl2 : zRel (zsF (zsF (zsF σ (18 + t) 8 r.1) (18 + t) 9 r.2) (18 + t) 6 r.2) (zsA μ 11 t r.2) := rl1.pl ht
      have rl3 : zRel (zsF (zsF (zsF (zsF σ (18 + t) 8 r.1) (18 + t) 9 r.2) (18 + t) 6 r.2) (18 + t) 7 2) (zsA (zsA μ 11 t r.2) 12 t 2) := rl2.st ht (by omega) hst
      have rl4 : zRel (zput (zsF (zsF (zsF (zsF σ (18 + t) 8 r.1) (18 + t) 9 r.2) (18 + t) 6 r.2) (18 + t) 7 2) t 0 32 10 pl) (zkeep (zsA (zsA μ 11 t r.2) 12 t 2) t 0 32 10 pl) := rl3.put hTl
      exact zPe (h _ rl4) (by show _ = zcv (μ.1 0 19); rw [hz19]; omega)
  rcases Decidable.em ((zat (μ.2 1) r.1) = 13) with c39_13 | c39_13
  · refine z_top c39_13 ?_
    refine z_tabIn (tgt := 140) 13 dX6_readToken_39 (by omega) (by decide) (by decide) rfl (by decide) ?_
    refine z_aload_0 dX6_readToken_140 ?_
    refine z_aload_1 dX6_readToken_141 ?_
    refine z_iload_3 dX6_readToken_142 ?_
    refine z_iload_2 dX6_readToken_143 ?_
    refine z_callV mX6_readActive [.ref (zad G (18 + t)), .int (zI r.1), .int (zI pl)] dX6_readToken_144 zk_X6_readActive zl_X6_220 ⟨Nat.le_of_ble_eq_true rfl, Nat.le_of_ble_eq_true rfl⟩ rfl rfl (Nat.le_of_ble_eq_true rfl) (Nat.le_of_ble_eq_true rfl) ?_
    refine M_X6_readActive (r.1) (zgeE (b := σ.1 7 1) ((zsF_ne (by omega)).trans ((zsF_ne (by omega)).trans (zsF_ne (by omega)))) (by omega)) (zltE (b := σ.1 7 1) ((zsF_ne (by omega)).trans ((zsF_ne (by omega)).trans (zsF_ne (by omega)))) (by omega)) (by omega) (by omega) t ht pl (by omega) (zgeE (b := σ.1 6 1) ((zsF_ne (by omega)).trans ((zsF_ne (by omega)).trans (zsF_ne (by omega)))) (by omega)) (zltE (b := σ.1 6 1) ((zsF_ne (by omega)).trans ((zsF_ne (by omega)).trans (zsF_ne (by omega)))) (by omega)) (zgeE (b := σ.1 (18 + t) 2) ((zsF_ne (by omega)).trans ((zsF_ne (by omega)).trans (zsF_ne (by omega)))) (by omega)) (fun i1 => ?_) (fun i1 => ?_)
    · refine z_b1 ?_
      refine z_top (b := σ.1 6 1) ((zsF_ne (by omega)).trans ((zsF_ne (by omega)).trans (zsF_ne (by omega)))) ?_
      refine z_iret dX6_readToken_147 rfl ?_
      have hm9 : σ.2 2 r.1 = μ.2 3 r.1 := congrFun hme r.1
      have i1 : σ.2 2 r.1 ≠ 0 := i1
      rw [zgive1, if_neg (by omega), if_neg (by omega), if_neg (by omega), if_neg (by omega), if_neg (by omega), if_neg (by omega), if_pos (by omega), if_neg (by omega)] at h
      rw [show μ.2 1 r.1 = 13 by omega] at h
      rw [hple] at h
      have rl0 : zRel (zsF σ (18 + t) 8 r.1) μ := zRel.jF (by unfold zCJ; omega) hrel
      have rl1 : zRel (zsF (zsF σ (18 + t) 8 r.1) (18 + t) 9 r.2) μ := zRel.jF (by unfold zCJ; omega) rl0
      have rl2 : zRel (zsF (zsF (zsF σ (18 + t) 8 r.1) (18 + t) 9 r.2) (18 + t) 6 r.2) (zsA μ 11 t r.2) := rl1.pl ht
      have rl3 : zRel (zsF (zsF (zsF (zsF σ (18 + t) 8 r.1) (18 + t) 9 r.2) (18 + t) 6 r.2) (18 + t) 7 1) (zsA (zsA μ 11 t r.2) 12 t 1) := rl2.st ht (by omega) hst
      have rl4 : zRel (zput (zsF (zsF (zsF (zsF σ (18 + t) 8 r.1) (18 + t) 9 r.2) (18 + t) 6 r.2) (18 + t) 7 1) t 2 r.1 13 pl) (zkeep (zsA (zsA μ 11 t r.2) 12 t 1) t 2 r.1 13 pl) := rl3.put hTl
      exact zPe (h _ rl4) (by show _ = zcv (μ.1 0 19); rw [hz19]; omega)
    · refine z_b1 ?_
      refine z_top (b := σ.1 6 1) ((zsF_ne (by omega)).trans ((zsF_ne (by omega)).trans (zsF_ne (by omega)))) ?_
      refine z_iret dX6_readToken_147 rfl ?_
      have hm9 : σ.2 2 r.1 = μ.2 3 r.1 := congrFun hme r.1
      have i1 : σ.2 2 r.1 = 0 := i1
      rw [zgive1, if_neg (by omega), if_neg (by omega), if_neg (by omega), if_neg (by omega), if_neg (by omega), if_neg (by omega), if_pos (by omega), if_pos (by omega)] at h
      rw [show μ.2 1 r.1 = 13 by omega] at h
      rw [hple] at h
      have rl0 : zRel (zsF σ (18 + t) 8 r.1) μ := zRel.jF (by unfold zCJ; omega) hrel
      have rl1 : zRel (zsF (zsF σ (18 + t) 8 r.1) (18 + t) 9 r.2) μ := zRel.jF (by unfold zCJ; omega) rl0
      have rl2 : zRel (zsF (zsF (zsF σ (18 + t) 8 r.1) (18 + t) 9 r.2) (18 + t) 6 r.2) (zsA μ 11 t r.2) := rl1.pl ht
      have rl3 : zRel (zsF (zsF (zsF (zsF σ (18 + t) 8 r.1) (18 + t) 9 r.2) (18 + t) 6 r.2) (18 + t) 7 1) (zsA (zsA μ 11 t r.2) 12 t 1) := rl2.st ht (by omega) hst
      have rl4 : zRel (zrep (zsF (zsF (zsF (zsF σ (18 + t) 8 r.1) (18 + t) 9 r.2) (18 + t) 6 r.2) (18 + t) 7 1) 2 r.1) (ztell (zsA (zsA μ 11 t r.2) 12 t 1) 2 r.1) := rl3.rep
      have rl5 : zRel (zput (zrep (zsF (zsF (zsF (zsF σ (18 + t) 8 r.1) (18 + t) 9 r.2) (18 + t) 6 r.2) (18 + t) 7 1) 2 r.1) t 2 r.1 13 pl) (zkeep (ztell (zsA (zsA μ 11 t r.2) 12 t 1) 2 r.1) t 2 r.1 13 pl) := rl4.put (show (t : Int) < (ztell (zsA (zsA μ 11 t r.2) 12 t 1) 2 r.1).1 0 10 by rw [ztell_F (by omega)]; exact hTl)
      exact zPe (h _ rl5) (by show _ = zcv (μ.1 0 19); rw [hz19]; omega)
  rcases Decidable.em ((zat (μ.2 1) r.1) = 14) with c39_14 | c39_14
  · refine z_top c39_14 ?_
    refine z_tabIn (tgt := 148) 14 dX6_readToken_39 (by omega) (by decide) (by decide) rfl (by decide) ?_
    refine z_aload_1 dX6_readToken_148 ?_
    refine z_iconst 0 dX6_readToken_149 rfl ?_
    refine z_putZ (j := 4) dX6_readToken_150 zp_X6_133 (shC_lv ht) rfl (by omega) ?_
    refine z_bipush (-6) dX6_readToken_153 (by decide +kernel) ?_
    refine z_iret dX6_readToken_155 rfl ?_
    rw [zgive1, if_neg (by omega), if_neg (by omega), if_neg (by omega), if_neg (by omega), if_pos (by omega)] at h
    have rl0 : zRel (zsF σ (18 + t) 8 r.1) μ := zRel.jF (by unfold zCJ; omega) hrel
    have rl1 : zRel (zsF (zsF σ (18 + t) 8 r.1) (18 + t) 9 r.2) μ := zRel.jF (by unfold zCJ; omega) rl0
    have rl2 : zRel (zsF (zsF (zsF σ (18 + t) 8 r.1) (18 + t) 9 r.2) (18 + t) 6 r.2) (zsA μ 11 t r.2) := rl1.pl ht
    have rl3 : zRel (zsF (zsF (zsF (zsF σ (18 + t) 8 r.1) (18 + t) 9 r.2) (18 + t) 6 r.2) (18 + t) 4 0) (zsA (zsA μ 11 t r.2) 12 t (-1)) := rl2.ov ht
    exact zPe (h _ rl3) (show (-6 : Int) = zcv (-1) from rfl)
  refine z_top (b := 15) (by omega) ?_
  refine z_tabIn (tgt := 156) 15 dX6_readToken_39 (by omega) (by decide) (by decide) rfl (by decide) ?_
  refine z_aload_0 dX6_readToken_156 ?_
  refine z_getR (j := 6) dX6_readToken_157 zf_X6_51 rfl rfl ?_
  refine z_iconst 1 dX6_readToken_160 rfl ?_
  refine z_aload_0 dX6_readToken_161 ?_
  refine z_getR (j := 5) dX6_readToken_162 zf_X6_44 rfl rfl ?_
  refine z_getI (j := 1) dX6_readToken_165 zf_X6_164 rfl rfl ?_
  refine z_top (b := σ.1 6 1) ((zsF_ne (by omega)).trans ((zsF_ne (by omega)).trans (zsF_ne (by omega)))) ?_
  have w7 : zR (σ.1 6 1) := hR.1 6 1
  refine z_iload_3 dX6_readToken_168 ?_
  refine z_callV mX4_report [.int (zI 1), .int (zI (σ.1 6 1)), .int (zI r.1)] dX6_readToken_169 zk_X4_report zl_X6_224 ⟨Nat.le_of_ble_eq_true rfl, Nat.le_of_ble_eq_true rfl⟩ rfl rfl (Nat.le_of_ble_eq_true rfl) (Nat.le_of_ble_eq_true rfl) ?_
  refine M_X4_reportZ 1 (σ.1 6 1) r.1 (((zsF_ne (by omega)).trans ((zsF_ne (by omega)).trans (zsF_ne (by omega))))).symm (by omega) (by omega) (by omega) (zgeE (b := σ.1 7 1) ((zsF_ne (by omega)).trans ((zsF_ne (by omega)).trans (zsF_ne (by omega)))) (by omega)) (zltE (b := σ.1 7 1) ((zsF_ne (by omega)).trans ((zsF_ne (by omega)).trans (zsF_ne (by omega)))) (by omega)) ?_
  refine z_b0 ?_
  refine z_bipush (-6) dX6_readToken_172 (by decide +kernel) ?_
  refine z_iret dX6_readToken_174 rfl ?_
  rw [zgive1, if_neg (by omega), if_neg (by omega), if_neg (by omega), if_neg (by omega), if_neg (by omega), if_pos (by omega)] at h
  have rl0 : zRel (zsF σ (18 + t) 8 r.1) μ := zRel.jF (by unfold zCJ; omega) hrel
  have rl1 : zRel (zsF (zsF σ (18 + t) 8 r.1) (18 + t) 9 r.2) μ := zRel.jF (by unfold zCJ; omega) rl0
  have rl2 : zRel (zsF (zsF (zsF σ (18 + t) 8 r.1) (18 + t) 9 r.2) (18 + t) 6 r.2) (zsA μ 11 t r.2) := rl1.pl ht
  have rl3 : zRel (zrep (zsF (zsF (zsF σ (18 + t) 8 r.1) (18 + t) 9 r.2) (18 + t) 6 r.2) 1 r.1) (ztell (zsA μ 11 t r.2) 1 r.1) := rl2.rep
  exact zPe (h _ rl3) (show (-6 : Int) = zcv (-1) from rfl)

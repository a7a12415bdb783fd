def zdig (c : Int) : Int := if 48 ≤ c ∧ c ≤ 57 then c - 48 else if 97 ≤ c ∧ c ≤ 102 then c - 87 else -1
def zst (row : Int → Int) (len p : Int) : Int := if 0 ≤ p ∧ p < len then row p else -1
def zat (cats : Int → Int) (s : Int) : Int := if 0 ≤ s ∧ s < 256 then cats s else -1
theorem zdig_R (c : Int) : -1 ≤ zdig c ∧ zdig c ≤ 15 := by unfold zdig; split <;> (try split) <;> omega
theorem zst_in {row : Int → Int} {len p : Int} (h0 : 0 ≤ p) (h1 : p < len) : zst row len p = row p := if_pos ⟨h0, h1⟩
theorem zst_out {row : Int → Int} {len p : Int} (h : p < 0 ∨ len ≤ p) : zst row len p = -1 := if_neg (by omega)
theorem zat_in {cats : Int → Int} {s : Int} (h0 : 0 ≤ s) (h1 : s < 256) : zat cats s = cats s := if_pos ⟨h0, h1⟩
theorem zat_out {cats : Int → Int} {s : Int} (h : s < 0 ∨ 256 ≤ s) : zat cats s = -1 := if_neg (by omega)

set_option maxRecDepth 100000 in
theorem M_X6_isSign {G : zG} {σ : zSt} {Post : Option Value → zSt → Prop} (s : Int) (hs : zR s) (h1 : 0 ≤ s → s < 256 → Post (some (.int (zI 1))) σ) (h0 : s < 0 ∨ 256 ≤ s → Post (some (.int (zI 0))) σ) : zV G shC mX6_isSign 0 (zini 1 [.int (zI s)]) [] σ Post := by
  refine z_rg (fun hR => ?_)
  refine z_lv (lv' := [some (.int (zI s))]) rfl ?_
  refine z_iload_0 dX6_isSign_0 ?_
  refine z_if_lt (tgt := 15) dX6_isSign_1 (by decide) (by omega) (fun c1 => ?_) (fun c1 => ?_)
  · refine z_iconst 0 dX6_isSign_15 rfl ?_
    refine z_zret dX6_isSign_16 rfl (Or.inl rfl) ?_
    exact h0 (by omega)
  · refine z_iload_0 dX6_isSign_4 ?_
    refine z_sipush 256 dX6_isSign_5 (by decide +kernel) ?_
    refine z_icmp_ge (tgt := 15) dX6_isSign_8 (by decide) (by omega) ⟨by decide, by decide⟩ (fun c8 => ?_) (fun c8 => ?_)
    · refine z_iconst 0 dX6_isSign_15 rfl ?_
      refine z_zret dX6_isSign_16 rfl (Or.inl rfl) ?_
      exact h0 (by omega)
    · refine z_iconst 1 dX6_isSign_11 rfl ?_
      refine z_goto (tgt := 16) dX6_isSign_12 (by decide) ?_
      refine z_zret dX6_isSign_16 rfl (Or.inr rfl) ?_
      exact h1 (by omega) (by omega)

set_option maxRecDepth 100000 in
theorem M_X0_at {G : zG} {σ : zSt} {Post : Option Value → zSt → Prop} (s : Int) (hs : zR s) (h : Post (some (.int (zI (zat (σ.2 8) s)))) σ) : zV G shC mX0_at 0 (zini 2 [.ref (zad G 1), .int (zI s)]) [] σ Post := by
  refine z_rg (fun hR => ?_)
  refine z_lv (lv' := [some (.ref (zad G 1)), some (.int (zI s))]) rfl ?_
  refine z_iload_1 dX0_at_0 ?_
  refine z_if_lt (tgt := 22) dX0_at_1 (by decide) (by omega) (fun c1 => ?_) (fun c1 => ?_)
  · refine z_iconst (-1) dX0_at_22 rfl ?_
    refine z_iret dX0_at_23 rfl ?_
    exact zPe h (zat_out (by omega)).symm
  · refine z_iload_1 dX0_at_4 ?_
    refine z_aload_0 dX0_at_5 ?_
    refine z_getR (j := 0) dX0_at_6 zf_X0_9 rfl rfl ?_
    refine z_alenI dX0_at_9 rfl ?_
    refine z_top (b := 256) rfl ?_
    refine z_icmp_ge (tgt := 22) dX0_at_10 (by decide) (by omega) ⟨by decide, by decide⟩ (fun c10 => ?_) (fun c10 => ?_)
    · refine z_iconst (-1) dX0_at_22 rfl ?_
      refine z_iret dX0_at_23 rfl ?_
      exact zPe h (zat_out (by omega)).symm
    · refine z_aload_0 dX0_at_13 ?_
      refine z_getR (j := 0) dX0_at_14 zf_X0_9 rfl rfl ?_
      refine z_iload_1 dX0_at_17 ?_
      refine z_iald dX0_at_18 rfl (by decide) (by omega) (by omega) ?_
      have w1 : zR (σ.2 8 s) := hR.2 8 s
      refine z_goto (tgt := 23) dX0_at_19 (by decide) ?_
      refine z_iret dX0_at_23 rfl ?_
      exact zPe h (zat_in (by omega) (by omega)).symm

set_option maxRecDepth 100000 in
theorem M_X0_setHere {G : zG} {σ : zSt} {Post : Option Value → zSt → Prop} (s c : Int) (hs : 0 ≤ s) (hs1 : s < 256) (hc : zR c) (h : Post none (zsA σ 8 s c)) : zV G shC mX0_setHere 0 (zini 3 [.ref (zad G 1), .int (zI s), .int (zI c)]) [] σ Post := by
  refine z_rg (fun hR => ?_)
  refine z_lv (lv' := [some (.ref (zad G 1)), some (.int (zI s)), some (.int (zI c))]) rfl ?_
  refine z_iload_1 dX0_setHere_0 ?_
  refine z_if_lt (tgt := 20) dX0_setHere_1 (by decide) (by omega) (fun c1 => by exfalso; omega) (fun c1 => ?_)
  refine z_iload_1 dX0_setHere_4 ?_
  refine z_aload_0 dX0_setHere_5 ?_
  refine z_getR (j := 0) dX0_setHere_6 zf_X0_9 rfl rfl ?_
  refine z_alenI dX0_setHere_9 rfl ?_
  refine z_top (b := 256) rfl ?_
  refine z_icmp_ge (tgt := 20) dX0_setHere_10 (by decide) (by omega) ⟨by decide, by decide⟩ (fun c10 => by exfalso; omega) (fun c10 => ?_)
  refine z_aload_0 dX0_setHere_13 ?_
  refine z_getR (j := 0) dX0_setHere_14 zf_X0_9 rfl rfl ?_
  refine z_iload_1 dX0_setHere_17 ?_
  refine z_iload_2 dX0_setHere_18 ?_
  refine z_iast dX0_setHere_19 rfl (by decide) (by omega) (by omega) (by omega) ?_
  refine z_vret dX0_setHere_20 rfl ?_
  exact h

set_option maxRecDepth 100000 in
theorem M_X1_left {G : zG} {σ : zSt} {Post : Option Value → zSt → Prop} (t : Nat) (ht : t < 6) (h1 : σ.1 (18 + t) 6 < σ.1 (18 + t) 5 → Post (some (.int (zI (σ.1 (18 + t) 5 - σ.1 (18 + t) 6)))) σ) (h0 : σ.1 (18 + t) 5 ≤ σ.1 (18 + t) 6 → Post (some (.int (zI 0))) σ) : zV G shC mX1_left 0 (zini 1 [.ref (zad G (18 + t))]) [] σ Post := by
  refine z_rg (fun hR => ?_)
  refine z_lv (lv' := [some (.ref (zad G (18 + t)))]) rfl ?_
  refine z_aload_0 dX1_left_0 ?_
  refine z_getI (j := 6) dX1_left_1 zf_X1_38 (shC_lv ht) rfl ?_
  have w1 : zR (σ.1 (18 + t) 6) := hR.1 (18 + t) 6
  refine z_aload_0 dX1_left_4 ?_
  refine z_getI (j := 5) dX1_left_5 zf_X1_35 (shC_lv ht) rfl ?_
  have w2 : zR (σ.1 (18 + t) 5) := hR.1 (18 + t) 5
  refine z_icmp_ge (tgt := 23) dX1_left_8 (by decide) (by omega) (by omega) (fun c8 => ?_) (fun c8 => ?_)
  · refine z_iconst 0 dX1_left_23 rfl ?_
    refine z_iret dX1_left_24 rfl ?_
    exact h0 (by omega)
  · refine z_aload_0 dX1_left_11 ?_
    refine z_getI (j := 5) dX1_left_12 zf_X1_35 (shC_lv ht) rfl ?_
    have w3 : zR (σ.1 (18 + t) 5) := hR.1 (18 + t) 5
    refine z_aload_0 dX1_left_15 ?_
    refine z_getI (j := 6) dX1_left_16 zf_X1_38 (shC_lv ht) rfl ?_
    have w4 : zR (σ.1 (18 + t) 6) := hR.1 (18 + t) 6
    refine z_isub dX1_left_19 ?_
    refine z_goto (tgt := 24) dX1_left_20 (by decide) ?_
    refine z_iret dX1_left_24 rfl ?_
    exact h1 (by omega)

set_option maxRecDepth 100000 in
theorem M_X1_standing {G : zG} {σ : zSt} {Post : Option Value → zSt → Prop} (t : Nat) (z : Int) (ht : t < 6) (hz : zR z) (hl : σ.1 (18 + t) 5 ≤ 121) (h : Post (some (.int (zI (zst (σ.2 (24 + t)) (σ.1 (18 + t) 5) z)))) σ) : zV G shC mX1_standing 0 (zini 2 [.ref (zad G (18 + t)), .int (zI z)]) [] σ Post := by
  refine z_rg (fun hR => ?_)
  refine z_lv (lv' := [some (.ref (zad G (18 + t))), some (.int (zI z))]) rfl ?_
  refine z_iload_1 dX1_standing_0 ?_
  refine z_if_lt (tgt := 30) dX1_standing_1 (by decide) (by omega) (fun c1 => ?_) (fun c1 => ?_)
  · refine z_iconst (-1) dX1_standing_30 rfl ?_
    refine z_iret dX1_standing_31 rfl ?_
    exact zPe h (zst_out (by omega)).symm
  · refine z_iload_1 dX1_standing_4 ?_
    refine z_aload_0 dX1_standing_5 ?_
    refine z_getI (j := 5) dX1_standing_6 zf_X1_35 (shC_lv ht) rfl ?_
    have w1 : zR (σ.1 (18 + t) 5) := hR.1 (18 + t) 5
    refine z_icmp_ge (tgt := 30) dX1_standing_9 (by decide) (by omega) (by omega) (fun c9 => ?_) (fun c9 => ?_)
    · refine z_iconst (-1) dX1_standing_30 rfl ?_
      refine z_iret dX1_standing_31 rfl ?_
      exact zPe h (zst_out (by omega)).symm
    · refine z_iload_1 dX1_standing_12 ?_
      refine z_aload_0 dX1_standing_13 ?_
      refine z_getR (j := 0) dX1_standing_14 zf_X1_9 (shC_lv ht) rfl ?_
      refine z_alenI dX1_standing_17 (shC_la ht) ?_
      refine z_top (b := 121) rfl ?_
      refine z_icmp_ge (tgt := 30) dX1_standing_18 (by decide) (by omega) ⟨by decide, by decide⟩ (fun c18 => ?_) (fun c18 => ?_)
      · refine z_iconst (-1) dX1_standing_30 rfl ?_
        refine z_iret dX1_standing_31 rfl ?_
        exact zPe h (zst_out (by omega)).symm
      · refine z_aload_0 dX1_standing_21 ?_
        refine z_getR (j := 0) dX1_standing_22 zf_X1_9 (shC_lv ht) rfl ?_
        refine z_iload_1 dX1_standing_25 ?_
        refine z_iald dX1_standing_26 (shC_la ht) (by decide) (by omega) (by omega) ?_
        have w2 : zR (σ.2 (24 + t) z) := hR.2 (24 + t) z
        refine z_goto (tgt := 31) dX1_standing_27 (by decide) ?_
        refine z_iret dX1_standing_31 rfl ?_
        exact zPe h (zst_in (by omega) (by omega)).symm

set_option maxRecDepth 100000 in
theorem M_X1_digit {G : zG} {σ : zSt} {Post : Option Value → zSt → Prop} (c : Int) (hc : zR c) (h : Post (some (.int (zI (zdig c)))) σ) : zV G shC mX1_digit 0 (zini 1 [.int (zI c)]) [] σ Post := by
  refine z_rg (fun hR => ?_)
  refine z_lv (lv' := [some (.int (zI c))]) rfl ?_
  refine z_iload_0 dX1_digit_0 ?_
  refine z_bipush 48 dX1_digit_1 (by decide +kernel) ?_
  refine z_icmp_lt (tgt := 17) dX1_digit_3 (by decide) (by omega) ⟨by decide, by decide⟩ (fun c3 => ?_) (fun c3 => ?_)
  · refine z_iload_0 dX1_digit_17 ?_
    refine z_bipush 97 dX1_digit_18 (by decide +kernel) ?_
    refine z_icmp_lt (tgt := 36) dX1_digit_20 (by decide) (by omega) ⟨by decide, by decide⟩ (fun c20 => ?_) (fun c20 => ?_)
    · refine z_iconst (-1) dX1_digit_36 rfl ?_
      refine z_iret dX1_digit_37 rfl ?_
      exact zPe h (by unfold zdig; split <;> (try split) <;> omega)
    · refine z_iload_0 dX1_digit_23 ?_
      refine z_bipush 102 dX1_digit_24 (by decide +kernel) ?_
      refine z_icmp_gt (tgt := 36) dX1_digit_26 (by decide) (by omega) ⟨by decide, by decide⟩ (fun c26 => ?_) (fun c26 => ?_)
      · refine z_iconst (-1) dX1_digit_36 rfl ?_
        refine z_iret dX1_digit_37 rfl ?_
        exact zPe h (by unfold zdig; split <;> (try split) <;> omega)
      · refine z_iload_0 dX1_digit_29 ?_
        refine z_bipush 87 dX1_digit_30 (by decide +kernel) ?_
        refine z_isub dX1_digit_32 ?_
        refine z_goto (tgt := 37) dX1_digit_33 (by decide) ?_
        refine z_iret dX1_digit_37 rfl ?_
        exact zPe h (by unfold zdig; split <;> (try split) <;> omega)
  · refine z_iload_0 dX1_digit_6 ?_
    refine z_bipush 57 dX1_digit_7 (by decide +kernel) ?_
    refine z_icmp_gt (tgt := 17) dX1_digit_9 (by decide) (by omega) ⟨by decide, by decide⟩ (fun c9 => ?_) (fun c9 => ?_)
    · refine z_iload_0 dX1_digit_17 ?_
      refine z_bipush 97 dX1_digit_18 (by decide +kernel) ?_
      refine z_icmp_lt (tgt := 36) dX1_digit_20 (by decide) (by omega) ⟨by decide, by decide⟩ (fun c20 => ?_) (fun c20 => ?_)
      · refine z_iconst (-1) dX1_digit_36 rfl ?_
        refine z_iret dX1_digit_37 rfl ?_
        exact zPe h (by unfold zdig; split <;> (try split) <;> omega)
      · refine z_iload_0 dX1_digit_23 ?_
        refine z_bipush 102 dX1_digit_24 (by decide +kernel) ?_
        refine z_icmp_gt (tgt := 36) dX1_digit_26 (by decide) (by omega) ⟨by decide, by decide⟩ (fun c26 => ?_) (fun c26 => ?_)
        · refine z_iconst (-1) dX1_digit_36 rfl ?_
          refine z_iret dX1_digit_37 rfl ?_
          exact zPe h (by unfold zdig; split <;> (try split) <;> omega)
        · refine z_iload_0 dX1_digit_29 ?_
          refine z_bipush 87 dX1_digit_30 (by decide +kernel) ?_
          refine z_isub dX1_digit_32 ?_
          refine z_goto (tgt := 37) dX1_digit_33 (by decide) ?_
          refine z_iret dX1_digit_37 rfl ?_
          exact zPe h (by unfold zdig; split <;> (try split) <;> omega)
    · refine z_iload_0 dX1_digit_12 ?_
      refine z_bipush 48 dX1_digit_13 (by decide +kernel) ?_
      refine z_isub dX1_digit_15 ?_
      refine z_iret dX1_digit_16 rfl ?_
      exact zPe h (by unfold zdig; split <;> (try split) <;> omega)

set_option maxRecDepth 100000 in
theorem M_X2_hasFile {G : zG} {σ : zSt} {Post : Option Value → zSt → Prop} (f : Int) (hf : zR f) (h8 : σ.1 3 3 ≤ 8) (h1 : 0 ≤ f → f < σ.1 3 3 → Post (some (.int (zI 1))) σ) (h0 : f < 0 ∨ σ.1 3 3 ≤ f → Post (some (.int (zI 0))) σ) : zV G shC mX2_hasFile 0 (zini 2 [.ref (zad G 3), .int (zI f)]) [] σ Post := by
  refine z_rg (fun hR => ?_)
  refine z_lv (lv' := [some (.ref (zad G 3)), some (.int (zI f))]) rfl ?_
  refine z_iload_1 dX2_hasFile_0 ?_
  refine z_if_lt (tgt := 25) dX2_hasFile_1 (by decide) (by omega) (fun c1 => ?_) (fun c1 => ?_)
  · refine z_iconst 0 dX2_hasFile_25 rfl ?_
    refine z_zret dX2_hasFile_26 rfl (Or.inl rfl) ?_
    first | exact h1 (by omega) (by omega) | exact h0 (by omega) | (exfalso; omega)
  · refine z_iload_1 dX2_hasFile_4 ?_
    refine z_aload_0 dX2_hasFile_5 ?_
    refine z_getI (j := 3) dX2_hasFile_6 zf_X2_21 rfl rfl ?_
    have w1 : zR (σ.1 3 3) := hR.1 3 3
    refine z_icmp_ge (tgt := 25) dX2_hasFile_9 (by decide) (by omega) (by omega) (fun c9 => ?_) (fun c9 => ?_)
    · refine z_iconst 0 dX2_hasFile_25 rfl ?_
      refine z_zret dX2_hasFile_26 rfl (Or.inl rfl) ?_
      first | exact h1 (by omega) (by omega) | exact h0 (by omega) | (exfalso; omega)
    · refine z_iload_1 dX2_hasFile_12 ?_
      refine z_aload_0 dX2_hasFile_13 ?_
      refine z_getR (j := 0) dX2_hasFile_14 zf_X2_9 rfl rfl ?_
      refine z_alenI dX2_hasFile_17 rfl ?_
      refine z_top (b := 8) rfl ?_
      refine z_icmp_ge (tgt := 25) dX2_hasFile_18 (by decide) (by omega) ⟨by decide, by decide⟩ (fun c18 => ?_) (fun c18 => ?_)
      · refine z_iconst 0 dX2_hasFile_25 rfl ?_
        refine z_zret dX2_hasFile_26 rfl (Or.inl rfl) ?_
        first | exact h1 (by omega) (by omega) | exact h0 (by omega) | (exfalso; omega)
      · refine z_iconst 1 dX2_hasFile_21 rfl ?_
        refine z_goto (tgt := 26) dX2_hasFile_22 (by decide) ?_
        refine z_zret dX2_hasFile_26 rfl (Or.inr rfl) ?_
        first | exact h1 (by omega) (by omega) | exact h0 (by omega) | (exfalso; omega)

theorem zat_R (cats : Int → Int) (s : Int) (h : ∀ q, zR (cats q)) : zR (zat cats s) := by unfold zat; split; exact h s; omega
theorem zst_R (row : Int → Int) (len p : Int) (h : ∀ q, zR (row q)) : zR (zst row len p) := by unfold zst; split; exact h p; omega
theorem zst_cg {r r' : Int → Int} {l l' p : Int} (e : r = r') (e2 : l = l') : zst r l p = zst r' l' p := by rw [e, e2]

set_option maxRecDepth 100000 in
theorem M_X2_lineCount {G : zG} {σ : zSt} {Post : Option Value → zSt → Prop} (f : Int) (hf : zR f) (h8 : σ.1 3 3 ≤ 8) (h1 : 0 ≤ f → f < σ.1 3 3 → Post (some (.int (zI (σ.2 10 f)))) σ) (h0 : f < 0 ∨ σ.1 3 3 ≤ f → Post (some (.int (zI 0))) σ) : zV G shC mX2_lineCount 0 (zini 2 [.ref (zad G 3), .int (zI f)]) [] σ Post := by
  refine z_rg (fun hR => ?_)
  refine z_lv (lv' := [some (.ref (zad G 3)), some (.int (zI f))]) rfl ?_
  refine z_aload_0 dX2_lineCount_0 ?_
  refine z_iload_1 dX2_lineCount_1 ?_
  refine z_callV mX2_hasFile [.int (zI f)] dX2_lineCount_2 zk_X2_hasFile zl_X2_25 ⟨Nat.le_of_ble_eq_true rfl, Nat.le_of_ble_eq_true rfl⟩ rfl rfl (Nat.le_of_ble_eq_true rfl) (Nat.le_of_ble_eq_true rfl) ?_
  refine M_X2_hasFile f (by omega) (by omega) (fun i1 i2 => ?_) (fun i1 => ?_)
  · refine z_b1 ?_
    refine z_if_eq (tgt := 17) dX2_lineCount_5 (by decide) ⟨by decide, by decide⟩ (fun c5 => by exfalso; omega) (fun c5 => ?_)
    refine z_aload_0 dX2_lineCount_8 ?_
    refine z_getR (j := 0) dX2_lineCount_9 zf_X2_9 rfl rfl ?_
    refine z_iload_1 dX2_lineCount_12 ?_
    refine z_iald dX2_lineCount_13 rfl (by decide) (by omega) (by omega) ?_
    have w1 : zR (σ.2 10 f) := hR.2 10 f
    refine z_goto (tgt := 18) dX2_lineCount_14 (by decide) ?_
    refine z_iret dX2_lineCount_18 rfl ?_
    exact h1 (by omega) (by omega)
  · refine z_b1 ?_
    refine z_if_eq (tgt := 17) dX2_lineCount_5 (by decide) ⟨by decide, by decide⟩ (fun c5 => ?_) (fun c5 => by exfalso; omega)
    refine z_iconst 0 dX2_lineCount_17 rfl ?_
    refine z_iret dX2_lineCount_18 rfl ?_
    exact h0 (by omega)

set_option maxRecDepth 100000 in
theorem M_X2_newFile {G : zG} {σ : zSt} {Post : Option Value → zSt → Prop} (h00 : 0 ≤ σ.1 3 3) (h1 : σ.1 3 3 < 8 → Post (some (.int (zI (σ.1 3 3)))) (zsF σ 3 3 (σ.1 3 3 + 1))) (h0 : 8 ≤ σ.1 3 3 → Post (some (.int (zI (-4)))) σ) : zV G shC mX2_newFile 0 (zini 1 [.ref (zad G 3)]) [] σ Post := by
  refine z_rg (fun hR => ?_)
  refine z_lv (lv' := [some (.ref (zad G 3))]) rfl ?_
  refine z_aload_0 dX2_newFile_0 ?_
  refine z_getI (j := 3) dX2_newFile_1 zf_X2_21 rfl rfl ?_
  have w1 : zR (σ.1 3 3) := hR.1 3 3
  refine z_bipush 8 dX2_newFile_4 (by decide +kernel) ?_
  refine z_icmp_lt (tgt := 12) dX2_newFile_6 (by decide) (by omega) ⟨by decide, by decide⟩ (fun c6 => ?_) (fun c6 => ?_)
  · refine z_aload_0 dX2_newFile_12 ?_
    refine z_dup dX2_newFile_13 rfl ?_
    refine z_getI (j := 3) dX2_newFile_14 zf_X2_21 rfl rfl ?_
    have w2 : zR (σ.1 3 3) := hR.1 3 3
    refine z_iconst 1 dX2_newFile_17 rfl ?_
    refine z_iadd dX2_newFile_18 ?_
    refine z_putI (j := 3) dX2_newFile_19 zp_X2_21 rfl rfl (by omega) ?_
    refine z_aload_0 dX2_newFile_22 ?_
    refine z_getI (j := 3) dX2_newFile_23 zf_X2_21 rfl rfl ?_
    refine z_top (b := ((σ.1 3 3) + 1)) zsF_eq ?_
    refine z_iconst 1 dX2_newFile_26 rfl ?_
    refine z_isub dX2_newFile_27 ?_
    refine z_iret dX2_newFile_28 rfl ?_
    exact zPe (h1 (by omega)) (by omega)
  · refine z_bipush (-4) dX2_newFile_9 (by decide +kernel) ?_
    refine z_iret dX2_newFile_11 rfl ?_
    exact h0 (by omega)

set_option maxRecDepth 100000 in
theorem M_X2_newLine {G : zG} {σ : zSt} {Post : Option Value → zSt → Prop} (f : Int) (hf0 : 0 ≤ f) (hf : f < σ.1 3 3) (h8 : σ.1 3 3 ≤ 8) (hc0 : 0 ≤ σ.2 10 f) (h1 : σ.2 10 f < 30 → Post (some (.int (zI (σ.2 10 f + 1)))) (zsA σ 10 f (σ.2 10 f + 1))) (h0 : 30 ≤ σ.2 10 f → Post (some (.int (zI (-4)))) σ) : zV G shC mX2_newLine 0 (zini 3 [.ref (zad G 3), .int (zI f)]) [] σ Post := by
  refine z_rg (fun hR => ?_)
  refine z_lv (lv' := [some (.ref (zad G 3)), some (.int (zI f)), none]) rfl ?_
  refine z_aload_0 dX2_newLine_0 ?_
  refine z_iload_1 dX2_newLine_1 ?_
  refine z_callV mX2_lineCount [.int (zI f)] dX2_newLine_2 zk_X2_lineCount zl_X2_29 ⟨Nat.le_of_ble_eq_true rfl, Nat.le_of_ble_eq_true rfl⟩ rfl rfl (Nat.le_of_ble_eq_true rfl) (Nat.le_of_ble_eq_true rfl) ?_
  refine M_X2_lineCount f (by omega) (by omega) (fun i1 i2 => ?_) (fun i1 => by exfalso; omega)
  refine z_b1 ?_
  have w1 : zR (σ.2 10 f) := hR.2 10 f
  refine z_istore_2 dX2_newLine_5 (Nat.le_of_ble_eq_true rfl) rfl ?_
  refine z_aload_0 dX2_newLine_6 ?_
  refine z_iload_1 dX2_newLine_7 ?_
  refine z_callV mX2_hasFile [.int (zI f)] dX2_newLine_8 zk_X2_hasFile zl_X2_25 ⟨Nat.le_of_ble_eq_true rfl, Nat.le_of_ble_eq_true rfl⟩ rfl rfl (Nat.le_of_ble_eq_true rfl) (Nat.le_of_ble_eq_true rfl) ?_
  refine M_X2_hasFile f (by omega) (by omega) (fun i1 i2 => ?_) (fun i1 => by exfalso; omega)
  refine z_b1 ?_
  refine z_if_eq (tgt := 20) dX2_newLine_11 (by decide) ⟨by decide, by decide⟩ (fun c11 => by exfalso; omega) (fun c11 => ?_)
  refine z_iload_2 dX2_newLine_14 ?_
  refine z_bipush 30 dX2_newLine_15 (by decide +kernel) ?_
  refine z_icmp_lt (tgt := 23) dX2_newLine_17 (by decide) (by omega) ⟨by decide, by decide⟩ (fun c17 => ?_) (fun c17 => ?_)
  · refine z_aload_0 dX2_newLine_23 ?_
    refine z_getR (j := 0) dX2_newLine_24 zf_X2_9 rfl rfl ?_
    refine z_iload_1 dX2_newLine_27 ?_
    refine z_iload_2 dX2_newLine_28 ?_
    refine z_iconst 1 dX2_newLine_29 rfl ?_
    refine z_iadd dX2_newLine_30 ?_
    refine z_iast dX2_newLine_31 rfl (by decide) (by omega) (by omega) (by omega) ?_
    refine z_iload_2 dX2_newLine_32 ?_
    refine z_iconst 1 dX2_newLine_33 rfl ?_
    refine z_iadd dX2_newLine_34 ?_
    refine z_iret dX2_newLine_35 rfl ?_
    exact h1 (by omega)
  · refine z_bipush (-4) dX2_newLine_20 (by decide +kernel) ?_
    refine z_iret dX2_newLine_22 rfl ?_
    exact h0 (by omega)

set_option maxRecDepth 100000 in
theorem M_X2_signAt {G : zG} {σ : zSt} {Post : Option Value → zSt → Prop} (z : Int) (hz0 : 0 ≤ z) (hz : z < 28800) (h : Post (some (.int (zI (σ.2 12 z)))) σ) : zV G shC mX2_signAt 0 (zini 2 [.ref (zad G 3), .int (zI z)]) [] σ Post := by
  refine z_rg (fun hR => ?_)
  refine z_lv (lv' := [some (.ref (zad G 3)), some (.int (zI z))]) rfl ?_
  refine z_iload_1 dX2_signAt_0 ?_
  refine z_if_lt (tgt := 22) dX2_signAt_1 (by decide) (by omega) (fun c1 => by exfalso; omega) (fun c1 => ?_)
  refine z_iload_1 dX2_signAt_4 ?_
  refine z_aload_0 dX2_signAt_5 ?_
  refine z_getR (j := 2) dX2_signAt_6 zf_X2_18 rfl rfl ?_
  refine z_alenI dX2_signAt_9 rfl ?_
  refine z_top (b := 28800) rfl ?_
  refine z_icmp_ge (tgt := 22) dX2_signAt_10 (by decide) (by omega) ⟨by decide, by decide⟩ (fun c10 => by exfalso; omega) (fun c10 => ?_)
  refine z_aload_0 dX2_signAt_13 ?_
  refine z_getR (j := 2) dX2_signAt_14 zf_X2_18 rfl rfl ?_
  refine z_iload_1 dX2_signAt_17 ?_
  refine z_iald dX2_signAt_18 rfl (by decide) (by omega) (by omega) ?_
  have w1 : zR (σ.2 12 z) := hR.2 12 z
  refine z_goto (tgt := 23) dX2_signAt_19 (by decide) ?_
  refine z_iret dX2_signAt_23 rfl ?_
  exact h

set_option maxRecDepth 100000 in
theorem M_X2_putSign {G : zG} {σ : zSt} {Post : Option Value → zSt → Prop} (z c : Int) (hz0 : 0 ≤ z) (hz : z < 28800) (hc : zR c) (h : Post none (zsA σ 12 z c)) : zV G shC mX2_putSign 0 (zini 3 [.ref (zad G 3), .int (zI z), .int (zI c)]) [] σ Post := by
  refine z_rg (fun hR => ?_)
  refine z_lv (lv' := [some (.ref (zad G 3)), some (.int (zI z)), some (.int (zI c))]) rfl ?_
  refine z_iload_1 dX2_putSign_0 ?_
  refine z_if_lt (tgt := 20) dX2_putSign_1 (by decide) (by omega) (fun c1 => by exfalso; omega) (fun c1 => ?_)
  refine z_iload_1 dX2_putSign_4 ?_
  refine z_aload_0 dX2_putSign_5 ?_
  refine z_getR (j := 2) dX2_putSign_6 zf_X2_18 rfl rfl ?_
  refine z_alenI dX2_putSign_9 rfl ?_
  refine z_top (b := 28800) rfl ?_
  refine z_icmp_ge (tgt := 20) dX2_putSign_10 (by decide) (by omega) ⟨by decide, by decide⟩ (fun c10 => by exfalso; omega) (fun c10 => ?_)
  refine z_aload_0 dX2_putSign_13 ?_
  refine z_getR (j := 2) dX2_putSign_14 zf_X2_18 rfl rfl ?_
  refine z_iload_1 dX2_putSign_17 ?_
  refine z_iload_2 dX2_putSign_18 ?_
  refine z_iast dX2_putSign_19 rfl (by decide) (by omega) (by omega) (by omega) ?_
  refine z_vret dX2_putSign_20 rfl ?_
  exact h

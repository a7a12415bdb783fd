set_option maxRecDepth 100000 in
theorem M_X6_category {G : zG} {σ : zSt} {Post : Option Value → zSt → Prop} (s c g : Int) (hs : zR s) (hc : zR c) (hg : zR g) (hg0 : 0 ≤ σ.1 1 2) (hg1 : σ.1 1 2 ≤ 20) (h2 : ¬ (0 ≤ s ∧ s < 256 ∧ 0 ≤ c ∧ c < 16) → Post (some (.int (zI (-2)))) σ) (h1 : 0 ≤ s → s < 256 → 0 ≤ c → c < 16 → g ≠ 0 → Post (some (.int (zI 1))) (zsS (zsA σ 8 s c) 9 s (σ.1 1 2) c)) (h0 : 0 ≤ s → s < 256 → 0 ≤ c → c < 16 → g = 0 → Post (some (.int (zI 1))) (zsA σ 8 s c)) : zV G shC mX6_category 0 (zini 4 [.ref (zad G 0), .int (zI s), .int (zI c), .int (zI g)]) [] σ Post := by
  refine z_rg (fun hR => ?_)
  refine z_lv (lv' := [some (.ref (zad G 0)), some (.int (zI s)), some (.int (zI c)), some (.int (zI g))]) rfl ?_
  refine z_iload_1 dX6_category_0 ?_
  refine z_callS mX6_isSign [.int (zI s)] dX6_category_1 zk_X6_isSign zl_X6_59 ⟨Nat.le_of_ble_eq_true rfl, Nat.le_of_ble_eq_true rfl⟩ (Nat.le_of_ble_eq_true rfl) (Nat.le_of_ble_eq_true rfl) ?_
  refine M_X6_isSign s (by omega) (fun i1 i2 => ?_) (fun i1 => ?_)
  · refine z_b1 ?_
    refine z_if_eq (tgt := 17) dX6_category_4 (by decide) ⟨by decide, by decide⟩ (fun c4 => by exfalso; omega) (fun c4 => ?_)
    refine z_iload_2 dX6_category_7 ?_
    refine z_if_lt (tgt := 17) dX6_category_8 (by decide) (by omega) (fun c8 => ?_) (fun c8 => ?_)
    · refine z_bipush (-2) dX6_category_17 (by decide +kernel) ?_
      refine z_iret dX6_category_19 rfl ?_
      exact h2 (by omega)
    · refine z_iload_2 dX6_category_11 ?_
      refine z_bipush 16 dX6_category_12 (by decide +kernel) ?_
      refine z_icmp_lt (tgt := 20) dX6_category_14 (by decide) (by omega) ⟨by decide, by decide⟩ (fun c14 => ?_) (fun c14 => ?_)
      · refine z_iload_3 dX6_category_20 ?_
        refine z_if_eq (tgt := 36) dX6_category_21 (by decide) (by omega) (fun c21 => ?_) (fun c21 => ?_)
        · refine z_aload_0 dX6_category_36 ?_
          refine z_getR (j := 0) dX6_category_37 zf_X6_10 rfl rfl ?_
          refine z_iload_1 dX6_category_40 ?_
          refine z_iload_2 dX6_category_41 ?_
          refine z_callV mX0_setHere [.int (zI s), .int (zI c)] dX6_category_42 zk_X0_setHere zl_X6_67 ⟨Nat.le_of_ble_eq_true rfl, Nat.le_of_ble_eq_true rfl⟩ rfl rfl (Nat.le_of_ble_eq_true rfl) (Nat.le_of_ble_eq_true rfl) ?_
          refine M_X0_setHere s c (by omega) (by omega) (by omega) ?_
          refine z_b0 ?_
          refine z_iconst 1 dX6_category_45 rfl ?_
          refine z_iret dX6_category_46 rfl ?_
          first | exact h1 (by omega) (by omega) (by omega) (by omega) (by omega) | exact h0 (by omega) (by omega) (by omega) (by omega) (by omega)
        · refine z_aload_0 dX6_category_24 ?_
          refine z_getR (j := 0) dX6_category_25 zf_X6_10 rfl rfl ?_
          refine z_iload_1 dX6_category_28 ?_
          refine z_iload_2 dX6_category_29 ?_
          refine z_callV mX0_setEverywhere [.int (zI s), .int (zI c)] dX6_category_30 zk_X0_setEverywhere zl_X6_63 ⟨Nat.le_of_ble_eq_true rfl, Nat.le_of_ble_eq_true rfl⟩ rfl rfl (Nat.le_of_ble_eq_true rfl) (Nat.le_of_ble_eq_true rfl) ?_
          refine M_X0_setEverywhere s c (by omega) (by omega) (by omega) (by omega) (by omega) ?_
          refine z_b0 ?_
          refine z_goto (tgt := 45) dX6_category_33 (by decide) ?_
          refine z_iconst 1 dX6_category_45 rfl ?_
          refine z_iret dX6_category_46 rfl ?_
          first | exact h1 (by omega) (by omega) (by omega) (by omega) (by omega) | exact h0 (by omega) (by omega) (by omega) (by omega) (by omega)
      · refine z_bipush (-2) dX6_category_17 (by decide +kernel) ?_
        refine z_iret dX6_category_19 rfl ?_
        exact h2 (by omega)
  · refine z_b1 ?_
    refine z_if_eq (tgt := 17) dX6_category_4 (by decide) ⟨by decide, by decide⟩ (fun c4 => ?_) (fun c4 => by exfalso; omega)
    refine z_bipush (-2) dX6_category_17 (by decide +kernel) ?_
    refine z_iret dX6_category_19 rfl ?_
    exact h2 (by omega)

set_option maxRecDepth 100000 in
theorem M_X6_group {G : zG} {σ : zSt} {Post : Option Value → zSt → Prop} (b : Int) (hb : zR b) (hg0 : 0 ≤ σ.1 1 2) (hg1 : σ.1 1 2 ≤ 20) (h1 : b ≠ 0 → σ.1 1 2 < 20 → Post (some (.int (zI (σ.1 1 2 + 1)))) (zsF (zsC σ 8 0 9 (σ.1 1 2 * 256) 256) 1 2 (σ.1 1 2 + 1))) (h4 : b ≠ 0 → σ.1 1 2 = 20 → Post (some (.int (zI (-4)))) σ) (h2 : b = 0 → 0 < σ.1 1 2 → Post (some (.int (zI (σ.1 1 2 - 1)))) (zsC (zsF σ 1 2 (σ.1 1 2 - 1)) 9 ((σ.1 1 2 - 1) * 256) 8 0 256)) (h3 : b = 0 → σ.1 1 2 = 0 → Post (some (.int (zI (-3)))) σ) : zV G shC mX6_group 0 (zini 2 [.ref (zad G 0), .int (zI b)]) [] σ Post := by
  refine z_rg (fun hR => ?_)
  refine z_lv (lv' := [some (.ref (zad G 0)), some (.int (zI b))]) rfl ?_
  refine z_iload_1 dX6_group_0 ?_
  refine z_if_eq (tgt := 27) dX6_group_1 (by decide) (by omega) (fun c1 => ?_) (fun c1 => ?_)
  · refine z_aload_0 dX6_group_27 ?_
    refine z_getR (j := 0) dX6_group_28 zf_X6_10 rfl rfl ?_
    refine z_callV mX0_endGroup [] dX6_group_31 zk_X0_endGroup zl_X6_77 ⟨Nat.le_of_ble_eq_true rfl, Nat.le_of_ble_eq_true rfl⟩ rfl rfl (Nat.le_of_ble_eq_true rfl) (Nat.le_of_ble_eq_true rfl) ?_
    refine M_X0_endGroup hg0 hg1 (fun i1 => ?_) (fun i1 => ?_)
    · refine z_b1 ?_
      refine z_if_eq (tgt := 47) dX6_group_34 (by decide) ⟨by decide, by decide⟩ (fun c34 => by exfalso; omega) (fun c34 => ?_)
      refine z_aload_0 dX6_group_37 ?_
      refine z_getR (j := 0) dX6_group_38 zf_X6_10 rfl rfl ?_
      refine z_getI (j := 2) dX6_group_41 zf_X6_74 rfl rfl ?_
      refine z_top (b := (σ.1 1 2 - 1)) (zsC_F.trans zsF_eq) ?_
      refine z_goto (tgt := 49) dX6_group_44 (by decide) ?_
      refine z_iret dX6_group_49 rfl ?_
      first | exact h1 (by omega) (by omega) | exact h2 (by omega) (by omega)
    · refine z_b1 ?_
      refine z_if_eq (tgt := 47) dX6_group_34 (by decide) ⟨by decide, by decide⟩ (fun c34 => ?_) (fun c34 => by exfalso; omega)
      refine z_bipush (-3) dX6_group_47 (by decide +kernel) ?_
      refine z_iret dX6_group_49 rfl ?_
      exact h3 (by omega) (by omega)
  · refine z_aload_0 dX6_group_4 ?_
    refine z_getR (j := 0) dX6_group_5 zf_X6_10 rfl rfl ?_
    refine z_callV mX0_beginGroup [] dX6_group_8 zk_X0_beginGroup zl_X6_70 ⟨Nat.le_of_ble_eq_true rfl, Nat.le_of_ble_eq_true rfl⟩ rfl rfl (Nat.le_of_ble_eq_true rfl) (Nat.le_of_ble_eq_true rfl) ?_
    refine M_X0_beginGroup hg0 hg1 (fun i1 => ?_) (fun i1 => ?_)
    · refine z_b1 ?_
      refine z_if_eq (tgt := 24) dX6_group_11 (by decide) ⟨by decide, by decide⟩ (fun c11 => by exfalso; omega) (fun c11 => ?_)
      refine z_aload_0 dX6_group_14 ?_
      refine z_getR (j := 0) dX6_group_15 zf_X6_10 rfl rfl ?_
      refine z_getI (j := 2) dX6_group_18 zf_X6_74 rfl rfl ?_
      refine z_top (b := (σ.1 1 2 + 1)) zsF_eq ?_
      refine z_goto (tgt := 26) dX6_group_21 (by decide) ?_
      refine z_iret dX6_group_26 rfl ?_
      first | exact h1 (by omega) (by omega) | exact h2 (by omega) (by omega)
    · refine z_b1 ?_
      refine z_if_eq (tgt := 24) dX6_group_11 (by decide) ⟨by decide, by decide⟩ (fun c11 => ?_) (fun c11 => by exfalso; omega)
      refine z_bipush (-4) dX6_group_24 (by decide +kernel) ?_
      refine z_iret dX6_group_26 rfl ?_
      exact h4 (by omega) (by omega)

set_option maxRecDepth 100000 in
theorem M_X6_endSign {G : zG} {σ : zSt} {Post : Option Value → zSt → Prop} (c : Int) (hc : zR c) (h1 : -1 ≤ c → c < 256 → Post (some (.int (zI 1))) (zsF σ 0 8 c)) (h0 : c < -1 ∨ 256 ≤ c → Post (some (.int (zI (-2)))) σ) : zV G shC mX6_endSign 0 (zini 2 [.ref (zad G 0), .int (zI c)]) [] σ Post := by
  refine z_rg (fun hR => ?_)
  refine z_lv (lv' := [some (.ref (zad G 0)), some (.int (zI c))]) rfl ?_
  refine z_iload_1 dX6_endSign_0 ?_
  refine z_iconst (-1) dX6_endSign_1 rfl ?_
  refine z_icmp_eq (tgt := 15) dX6_endSign_2 (by decide) (by omega) ⟨by decide, by decide⟩ (fun c2 => ?_) (fun c2 => ?_)
  · refine z_aload_0 dX6_endSign_15 ?_
    refine z_iload_1 dX6_endSign_16 ?_
    refine z_putI (j := 8) dX6_endSign_17 zp_X6_55 rfl rfl (by omega) ?_
    refine z_iconst 1 dX6_endSign_20 rfl ?_
    refine z_iret dX6_endSign_21 rfl ?_
    exact h1 (by omega) (by omega)
  · refine z_iload_1 dX6_endSign_5 ?_
    refine z_callS mX6_isSign [.int (zI c)] dX6_endSign_6 zk_X6_isSign zl_X6_59 ⟨Nat.le_of_ble_eq_true rfl, Nat.le_of_ble_eq_true rfl⟩ (Nat.le_of_ble_eq_true rfl) (Nat.le_of_ble_eq_true rfl) ?_
    refine M_X6_isSign c (by omega) (fun i1 i2 => ?_) (fun i1 => ?_)
    · refine z_b1 ?_
      refine z_if_ne (tgt := 15) dX6_endSign_9 (by decide) ⟨by decide, by decide⟩ (fun c9 => ?_) (fun c9 => by exfalso; omega)
      refine z_aload_0 dX6_endSign_15 ?_
      refine z_iload_1 dX6_endSign_16 ?_
      refine z_putI (j := 8) dX6_endSign_17 zp_X6_55 rfl rfl (by omega) ?_
      refine z_iconst 1 dX6_endSign_20 rfl ?_
      refine z_iret dX6_endSign_21 rfl ?_
      exact h1 (by omega) (by omega)
    · refine z_b1 ?_
      refine z_if_ne (tgt := 15) dX6_endSign_9 (by decide) ⟨by decide, by decide⟩ (fun c9 => by exfalso; omega) (fun c9 => ?_)
      refine z_bipush (-2) dX6_endSign_12 (by decide +kernel) ?_
      refine z_iret dX6_endSign_14 rfl ?_
      exact h0 (by omega)

set_option maxRecDepth 100000 in
theorem M_X6_meaning {G : zG} {σ : zSt} {Post : Option Value → zSt → Prop} (s b : Int) (hs : zR s) (hb : b = 0 ∨ b = 1) (h1 : 0 ≤ s → s < 256 → Post (some (.int (zI 1))) (zsA σ 2 s b)) (h0 : s < 0 ∨ 256 ≤ s → Post (some (.int (zI (-2)))) σ) : zV G shC mX6_meaning 0 (zini 3 [.ref (zad G 0), .int (zI s), .int (zI b)]) [] σ Post := by
  refine z_rg (fun hR => ?_)
  refine z_lv (lv' := [some (.ref (zad G 0)), some (.int (zI s)), some (.int (zI b))]) rfl ?_
  refine z_iload_1 dX6_meaning_0 ?_
  refine z_callS mX6_isSign [.int (zI s)] dX6_meaning_1 zk_X6_isSign zl_X6_59 ⟨Nat.le_of_ble_eq_true rfl, Nat.le_of_ble_eq_true rfl⟩ (Nat.le_of_ble_eq_true rfl) (Nat.le_of_ble_eq_true rfl) ?_
  refine M_X6_isSign s (by omega) (fun i1 i2 => ?_) (fun i1 => ?_)
  · refine z_b1 ?_
    refine z_if_ne (tgt := 10) dX6_meaning_4 (by decide) ⟨by decide, by decide⟩ (fun c4 => ?_) (fun c4 => by exfalso; omega)
    refine z_aload_0 dX6_meaning_10 ?_
    refine z_getR (j := 1) dX6_meaning_11 zf_X6_16 rfl rfl ?_
    refine z_iload_1 dX6_meaning_14 ?_
    refine z_iload_2 dX6_meaning_15 ?_
    refine z_zast dX6_meaning_16 rfl (by decide) (by omega) (by omega) (by omega) ?_
    refine z_iconst 1 dX6_meaning_17 rfl ?_
    refine z_iret dX6_meaning_18 rfl ?_
    exact h1 (by omega) (by omega)
  · refine z_b1 ?_
    refine z_if_ne (tgt := 10) dX6_meaning_4 (by decide) ⟨by decide, by decide⟩ (fun c4 => by exfalso; omega) (fun c4 => ?_)
    refine z_bipush (-2) dX6_meaning_7 (by decide +kernel) ?_
    refine z_iret dX6_meaning_9 rfl ?_
    exact h0 (by omega)

set_option maxRecDepth 100000 in
theorem M_X6_file {G : zG} {σ : zSt} {Post : Option Value → zSt → Prop} (h00 : 0 ≤ σ.1 3 3) (h1 : σ.1 3 3 < 8 → Post (some (.int (zI (σ.1 3 3)))) (zsF σ 3 3 (σ.1 3 3 + 1))) (h0 : 8 ≤ σ.1 3 3 → Post (some (.int (zI (-4)))) σ) : zV G shC mX6_file 0 (zini 1 [.ref (zad G 0)]) [] σ Post := by
  refine z_rg (fun hR => ?_)
  refine z_lv (lv' := [some (.ref (zad G 0))]) rfl ?_
  refine z_aload_0 dX6_file_0 ?_
  refine z_getR (j := 2) dX6_file_1 zf_X6_23 rfl rfl ?_
  refine z_callV mX2_newFile [] dX6_file_4 zk_X2_newFile zl_X6_80 ⟨Nat.le_of_ble_eq_true rfl, Nat.le_of_ble_eq_true rfl⟩ rfl rfl (Nat.le_of_ble_eq_true rfl) (Nat.le_of_ble_eq_true rfl) ?_
  refine M_X2_newFile h00 (fun i1 => ?_) (fun i1 => ?_)
  · refine z_b1 ?_
    refine z_iret dX6_file_7 rfl ?_
    first | exact h1 i1 | exact h0 i1
  · refine z_b1 ?_
    refine z_iret dX6_file_7 rfl ?_
    first | exact h1 i1 | exact h0 i1

set_option maxRecDepth 100000 in
theorem M_X6_line {G : zG} {σ : zSt} {Post : Option Value → zSt → Prop} (f : Int) (hf : zR f) (h8 : σ.1 3 3 ≤ 8) (hc0 : ∀ q, 0 ≤ σ.2 10 q) (hm : f < 0 ∨ σ.1 3 3 ≤ f → Post (some (.int (zI (-1)))) σ) (h1 : 0 ≤ f → f < σ.1 3 3 → σ.2 10 f < 30 → Post (some (.int (zI (σ.2 10 f + 1)))) (zsA σ 10 f (σ.2 10 f + 1))) (h0 : 0 ≤ f → f < σ.1 3 3 → 30 ≤ σ.2 10 f → Post (some (.int (zI (-4)))) σ) : zV G shC mX6_line 0 (zini 2 [.ref (zad G 0), .int (zI f)]) [] σ Post := by
  refine z_rg (fun hR => ?_)
  refine z_lv (lv' := [some (.ref (zad G 0)), some (.int (zI f))]) rfl ?_
  refine z_aload_0 dX6_line_0 ?_
  refine z_getR (j := 2) dX6_line_1 zf_X6_23 rfl rfl ?_
  refine z_iload_1 dX6_line_4 ?_
  refine z_callV mX2_hasFile [.int (zI f)] dX6_line_5 zk_X2_hasFile zl_X6_84 ⟨Nat.le_of_ble_eq_true rfl, Nat.le_of_ble_eq_true rfl⟩ rfl rfl (Nat.le_of_ble_eq_true rfl) (Nat.le_of_ble_eq_true rfl) ?_
  refine M_X2_hasFile f (by omega) (by omega) (fun i1 i2 => ?_) (fun i1 => ?_)
  · refine z_b1 ?_
    refine z_if_eq (tgt := 22) dX6_line_8 (by decide) ⟨by decide, by decide⟩ (fun c8 => by exfalso; omega) (fun c8 => ?_)
    refine z_aload_0 dX6_line_11 ?_
    refine z_getR (j := 2) dX6_line_12 zf_X6_23 rfl rfl ?_
    refine z_iload_1 dX6_line_15 ?_
    refine z_callV mX2_newLine [.int (zI f)] dX6_line_16 zk_X2_newLine zl_X6_87 ⟨Nat.le_of_ble_eq_true rfl, Nat.le_of_ble_eq_true rfl⟩ rfl rfl (Nat.le_of_ble_eq_true rfl) (Nat.le_of_ble_eq_true rfl) ?_
    refine M_X2_newLine f (by omega) (by omega) (by omega) (hc0 _) (fun i3 => ?_) (fun i3 => ?_)
    · refine z_b1 ?_
      refine z_goto (tgt := 23) dX6_line_19 (by decide) ?_
      refine z_iret dX6_line_23 rfl ?_
      exact h1 (by omega) (by omega) (by omega)
    · refine z_b1 ?_
      refine z_goto (tgt := 23) dX6_line_19 (by decide) ?_
      refine z_iret dX6_line_23 rfl ?_
      exact h0 (by omega) (by omega) (by omega)
  · refine z_b1 ?_
    refine z_if_eq (tgt := 22) dX6_line_8 (by decide) ⟨by decide, by decide⟩ (fun c8 => ?_) (fun c8 => by exfalso; omega)
    refine z_iconst (-1) dX6_line_22 rfl ?_
    refine z_iret dX6_line_23 rfl ?_
    exact hm (by omega)

set_option maxRecDepth 100000 in
theorem M_X6_add {G : zG} {σ : zSt} {Post : Option Value → zSt → Prop} (f n : Int) (x : Int64) (hf : zR f) (hn : zR n) (h8 : σ.1 3 3 ≤ 8) (hc : ∀ q, 0 ≤ σ.2 10 q ∧ σ.2 10 q ≤ 30) (hlr : ∀ r, 0 ≤ σ.2 11 r ∧ σ.2 11 r ≤ 120) (hm : f < 0 ∨ σ.1 3 3 ≤ f → Post (some (.int (zI (-1)))) σ) (h2 : 0 ≤ f → f < σ.1 3 3 → n < 1 ∨ 8 < n → Post (some (.int (zI (-2)))) σ) (h3 : 0 ≤ f → f < σ.1 3 3 → 1 ≤ n → n ≤ 8 → σ.2 10 f = 0 → Post (some (.int (zI (-3)))) σ) (h4 : 0 ≤ f → f < σ.1 3 3 → 1 ≤ n → n ≤ 8 → 0 < σ.2 10 f → 120 < σ.2 11 (f * 30 + σ.2 10 f - 1) + n → Post (some (.int (zI (-4)))) σ) (h1 : 0 ≤ f → f < σ.1 3 3 → 1 ≤ n → n ≤ 8 → 0 < σ.2 10 f → σ.2 11 (f * 30 + σ.2 10 f - 1) + n ≤ 120 → Post (some (.int (zI (σ.2 11 (f * 30 + σ.2 10 f - 1) + n)))) (zsA (zsB σ 12 ((f * 30 + σ.2 10 f - 1) * 120 + σ.2 11 (f * 30 + σ.2 10 f - 1)) n (zbc x n)) 11 (f * 30 + σ.2 10 f - 1) (σ.2 11 (f * 30 + σ.2 10 f - 1) + n))) : zV G shC mX6_add 0 (zini 5 [.ref (zad G 0), .int (zI f), .long x, .int (zI n)]) [] σ Post := by
  refine z_rg (fun hR => ?_)
  refine z_lv (lv' := [some (.ref (zad G 0)), some (.int (zI f)), some (.long x), none, some (.int (zI n))]) rfl ?_
  refine z_aload_0 dX6_add_0 ?_
  refine z_getR (j := 2) dX6_add_1 zf_X6_23 rfl rfl ?_
  refine z_iload_1 dX6_add_4 ?_
  refine z_callV mX2_hasFile [.int (zI f)] dX6_add_5 zk_X2_hasFile zl_X6_84 ⟨Nat.le_of_ble_eq_true rfl, Nat.le_of_ble_eq_true rfl⟩ rfl rfl (Nat.le_of_ble_eq_true rfl) (Nat.le_of_ble_eq_true rfl) ?_
  refine M_X2_hasFile f (by omega) (by omega) (fun i1 i2 => ?_) (fun i1 => ?_)
  · refine z_b1 ?_
    refine z_if_ne (tgt := 13) dX6_add_8 (by decide) ⟨by decide, by decide⟩ (fun c8 => ?_) (fun c8 => by exfalso; omega)
    refine z_iload_4 dX6_add_13 ?_
    refine z_iconst 1 dX6_add_15 rfl ?_
    refine z_icmp_lt (tgt := 26) dX6_add_16 (by decide) (by omega) ⟨by decide, by decide⟩ (fun c16 => ?_) (fun c16 => ?_)
    · refine z_bipush (-2) dX6_add_26 (by decide +kernel) ?_
      refine z_iret dX6_add_28 rfl ?_
      exact h2 (by omega) (by omega) (by omega)
    · refine z_iload_4 dX6_add_19 ?_
      refine z_bipush 8 dX6_add_21 (by decide +kernel) ?_
      refine z_icmp_le (tgt := 29) dX6_add_23 (by decide) (by omega) ⟨by decide, by decide⟩ (fun c23 => ?_) (fun c23 => ?_)
      · refine z_aload_0 dX6_add_29 ?_
        refine z_getR (j := 2) dX6_add_30 zf_X6_23 rfl rfl ?_
        refine z_iload_1 dX6_add_33 ?_
        refine z_lloadN (i := 2) dX6_add_34 rfl rfl ?_
        refine z_iload_4 dX6_add_35 ?_
        refine z_callV mX2_append [.int (zI f), .long x, .int (zI n)] dX6_add_37 zk_X2_append zl_X6_91 ⟨Nat.le_of_ble_eq_true rfl, Nat.le_of_ble_eq_true rfl⟩ rfl rfl (Nat.le_of_ble_eq_true rfl) (Nat.le_of_ble_eq_true rfl) ?_
        refine M_X2_append f n x (by omega) (by omega) (by omega) (by omega) (by omega) (hc f).1 (hc f).2 hlr (fun i3 => ?_) (fun i3 i4 => ?_) (fun i3 i4 => ?_)
        · refine z_b1 ?_
          refine z_iret dX6_add_40 rfl ?_
          exact h3 (by omega) (by omega) (by omega) (by omega) i3
        · refine z_b1 ?_
          refine z_iret dX6_add_40 rfl ?_
          exact h4 (by omega) (by omega) (by omega) (by omega) i3 i4
        · refine z_b1 ?_
          refine z_iret dX6_add_40 rfl ?_
          exact h1 (by omega) (by omega) (by omega) (by omega) i3 i4
      · refine z_bipush (-2) dX6_add_26 (by decide +kernel) ?_
        refine z_iret dX6_add_28 rfl ?_
        exact h2 (by omega) (by omega) (by omega)
  · refine z_b1 ?_
    refine z_if_ne (tgt := 13) dX6_add_8 (by decide) ⟨by decide, by decide⟩ (fun c8 => by exfalso; omega) (fun c8 => ?_)
    refine z_iconst (-1) dX6_add_11 rfl ?_
    refine z_iret dX6_add_12 rfl ?_
    exact hm (by omega)

set_option maxRecDepth 100000 in
theorem M_X6_open {G : zG} {σ : zSt} {Post : Option Value → zSt → Prop} (f : Int) (hf : zR f) (h8 : σ.1 3 3 ≤ 8) (hl0 : 0 ≤ σ.1 0 7) (hl : σ.1 0 7 ≤ 6) (hm : f < 0 ∨ σ.1 3 3 ≤ f → Post (some (.int (zI (-1)))) σ) (h4 : 0 ≤ f → f < σ.1 3 3 → σ.1 0 7 = 6 → Post (some (.int (zI (-4)))) σ) (h1 : 0 ≤ f → f < σ.1 3 3 → ∀ t : Nat, t < 6 → σ.1 0 7 = t → Post (some (.int (zI (σ.1 0 7 + 1)))) (zsF (zsF (zsF (zsF (zsF σ (18 + t) 1 f) (18 + t) 2 0) (18 + t) 3 0) (18 + t) 4 0) 0 7 (σ.1 0 7 + 1))) : zV G shC mX6_open 0 (zini 2 [.ref (zad G 0), .int (zI f)]) [] σ Post := by
  refine z_rg (fun hR => ?_)
  refine z_lv (lv' := [some (.ref (zad G 0)), some (.int (zI f))]) rfl ?_
  obtain ⟨t, ht, hte⟩ : ∃ t : Nat, t < 6 ∧ (σ.1 0 7 < 6 → σ.1 0 7 = (t : Int)) := ⟨(if σ.1 0 7 < 6 then σ.1 0 7 else 0).toNat, by split <;> omega, fun h => by rw [if_pos h]; omega⟩
  refine z_aload_0 dX6_open_0 ?_
  refine z_getR (j := 2) dX6_open_1 zf_X6_23 rfl rfl ?_
  refine z_iload_1 dX6_open_4 ?_
  refine z_callV mX2_hasFile [.int (zI f)] dX6_open_5 zk_X2_hasFile zl_X6_84 ⟨Nat.le_of_ble_eq_true rfl, Nat.le_of_ble_eq_true rfl⟩ rfl rfl (Nat.le_of_ble_eq_true rfl) (Nat.le_of_ble_eq_true rfl) ?_
  refine M_X2_hasFile f (by omega) (by omega) (fun i1 i2 => ?_) (fun i1 => ?_)
  · refine z_b1 ?_
    refine z_if_ne (tgt := 13) dX6_open_8 (by decide) ⟨by decide, by decide⟩ (fun c8 => ?_) (fun c8 => by exfalso; omega)
    refine z_aload_0 dX6_open_13 ?_
    refine z_getI (j := 7) dX6_open_14 zf_X6_95 rfl rfl ?_
    have w1 : zR (σ.1 0 7) := hR.1 0 7
    refine z_if_lt (tgt := 32) dX6_open_17 (by decide) (by omega) (fun c17 => by exfalso; omega) (fun c17 => ?_)
    refine z_aload_0 dX6_open_20 ?_
    refine z_getI (j := 7) dX6_open_21 zf_X6_95 rfl rfl ?_
    have w2 : zR (σ.1 0 7) := hR.1 0 7
    refine z_aload_0 dX6_open_24 ?_
    refine z_getR (j := 3) dX6_open_25 zf_X6_29 rfl rfl ?_
    refine z_alenR dX6_open_28 rfl ?_
    refine z_top (b := 6) rfl ?_
    refine z_icmp_lt (tgt := 35) dX6_open_29 (by decide) (by omega) ⟨by decide, by decide⟩ (fun c29 => ?_) (fun c29 => ?_)
    · refine z_aload_0 dX6_open_35 ?_
      refine z_getR (j := 3) dX6_open_36 zf_X6_29 rfl rfl ?_
      refine z_aload_0 dX6_open_39 ?_
      refine z_getI (j := 7) dX6_open_40 zf_X6_95 rfl rfl ?_
      have w3 : zR (σ.1 0 7) := hR.1 0 7
      refine z_aald dX6_open_43 rfl (by decide) (by omega) (shC_lr ht (by omega)) ?_
      refine z_iload_1 dX6_open_44 ?_
      refine z_callV mX1_start [.int (zI f)] dX6_open_45 zk_X1_start zl_X6_98 ⟨Nat.le_of_ble_eq_true rfl, Nat.le_of_ble_eq_true rfl⟩ (shC_lv ht) rfl (Nat.le_of_ble_eq_true rfl) (Nat.le_of_ble_eq_true rfl) ?_
      refine M_X1_start t ht f (by omega) ?_
      refine z_b0 ?_
      refine z_aload_0 dX6_open_48 ?_
      refine z_dup dX6_open_49 rfl ?_
      refine z_getI (j := 7) dX6_open_50 zf_X6_95 rfl rfl ?_
      refine z_top (b := σ.1 0 7) ((zsF_ne (by omega)).trans ((zsF_ne (by omega)).trans ((zsF_ne (by omega)).trans (zsF_ne (by omega))))) ?_
      have w4 : zR (σ.1 0 7) := hR.1 0 7
      refine z_iconst 1 dX6_open_53 rfl ?_
      refine z_iadd dX6_open_54 ?_
      refine z_putI (j := 7) dX6_open_55 zp_X6_95 rfl rfl (by omega) ?_
      refine z_aload_0 dX6_open_58 ?_
      refine z_getI (j := 7) dX6_open_59 zf_X6_95 rfl rfl ?_
      refine z_top (b := ((σ.1 0 7) + 1)) zsF_eq ?_
      refine z_iret dX6_open_62 rfl ?_
      exact h1 (by omega) (by omega) t ht (by omega)
    · refine z_bipush (-4) dX6_open_32 (by decide +kernel) ?_
      refine z_iret dX6_open_34 rfl ?_
      exact h4 (by omega) (by omega) (by omega)
  · refine z_b1 ?_
    refine z_if_ne (tgt := 13) dX6_open_8 (by decide) ⟨by decide, by decide⟩ (fun c8 => by exfalso; omega) (fun c8 => ?_)
    refine z_iconst (-1) dX6_open_11 rfl ?_
    refine z_iret dX6_open_12 rfl ?_
    exact hm (by omega)

set_option maxRecDepth 100000 in
theorem M_X6_close {G : zG} {σ : zSt} {Post : Option Value → zSt → Prop} (hl0 : 0 ≤ σ.1 0 7) (hl : σ.1 0 7 ≤ 6) (h0 : σ.1 0 7 = 0 → Post (some (.int (zI (-3)))) σ) (h1 : ∀ t : Nat, t < 6 → σ.1 0 7 = (t : Int) + 1 → Post (some (.int (zI 1))) (zsF σ (18 + t) 3 1)) : zV G shC mX6_close 0 (zini 2 [.ref (zad G 0)]) [] σ Post := by
  refine z_rg (fun hR => ?_)
  refine z_lv (lv' := [some (.ref (zad G 0)), none]) rfl ?_
  refine z_aload_0 dX6_close_0 ?_
  refine z_callV mX6_topLevel [] dX6_close_1 zk_X6_topLevel zl_X6_102 ⟨Nat.le_of_ble_eq_true rfl, Nat.le_of_ble_eq_true rfl⟩ rfl rfl (Nat.le_of_ble_eq_true rfl) (Nat.le_of_ble_eq_true rfl) ?_
  refine M_X6_topLevel (by omega) (by omega) (fun t ht hte => ?_) (fun hte => ?_)
  · refine z_b1 ?_
    refine z_astore_1 dX6_close_4 (Nat.le_of_ble_eq_true rfl) rfl ?_
    refine z_aload_1 dX6_close_5 ?_
    refine z_ifnonnull (tgt := 12) dX6_close_6 (by decide) ?_
    refine z_aload_1 dX6_close_12 ?_
    refine z_iconst 1 dX6_close_13 rfl ?_
    refine z_putZ (j := 3) dX6_close_14 zp_X6_106 (shC_lv ht) rfl (by omega) ?_
    refine z_iconst 1 dX6_close_17 rfl ?_
    refine z_iret dX6_close_18 rfl ?_
    exact h1 t ht hte
  · refine z_b1 ?_
    refine z_astoreNN (i := 1) dX6_close_4 rfl (by simp) (Nat.le_of_ble_eq_true rfl) (zpvS (i := 0) rfl rfl) ?_
    refine z_lv (lv' := [some (.ref (zad G 0)), some (.null)]) rfl ?_
    refine z_aloadNN (i := 1) dX6_close_5 rfl rfl ?_
    refine z_ifnonnullN dX6_close_6 ?_
    refine z_bipush (-3) dX6_close_9 (by decide +kernel) ?_
    refine z_iret dX6_close_11 rfl ?_
    exact h0 hte

set_option maxRecDepth 100000 in
theorem M_X6_name {G : zG} {σ : zSt} {Post : Option Value → zSt → Prop} (a k : Int) (ha : zR a) (hk : zR k) (hsz : σ.1 5 3 ≤ 150) (hln : ∀ q, 0 ≤ σ.2 14 q ∧ σ.2 14 q ≤ 40) (h : Post (some (.int (zI (zns (σ.2 13) (σ.2 14) (σ.1 5 3) a k)))) σ) : zV G shC mX6_name 0 (zini 3 [.ref (zad G 0), .int (zI a), .int (zI k)]) [] σ Post := by
  refine z_rg (fun hR => ?_)
  refine z_lv (lv' := [some (.ref (zad G 0)), some (.int (zI a)), some (.int (zI k))]) rfl ?_
  refine z_aload_0 dX6_name_0 ?_
  refine z_getR (j := 4) dX6_name_1 zf_X6_37 rfl rfl ?_
  refine z_iload_1 dX6_name_4 ?_
  refine z_iload_2 dX6_name_5 ?_
  refine z_callV mX3_sign [.int (zI a), .int (zI k)] dX6_name_6 zk_X3_sign zl_X6_154 ⟨Nat.le_of_ble_eq_true rfl, Nat.le_of_ble_eq_true rfl⟩ rfl rfl (Nat.le_of_ble_eq_true rfl) (Nat.le_of_ble_eq_true rfl) ?_
  refine M_X3_sign a k (by omega) (by omega) (by omega) hln ?_
  refine z_b1 ?_
  have w1 := zns_R (σ.2 13) (σ.2 14) (σ.1 5 3) a k (fun q => hR.2 13 q)
  refine z_iret dX6_name_9 rfl ?_
  exact h

set_option maxRecDepth 100000 in
theorem M_X6_told {G : zG} {σ : zSt} {Post : Option Value → zSt → Prop} (a k : Int) (ha : zR a) (hk : zR k) (hs0 : 0 ≤ σ.1 7 1) (h1 : 0 ≤ a → a < σ.1 7 1 → a < 100 → 0 ≤ k → k < 3 → Post (some (.int (zI (σ.2 17 (a * 3 + k))))) σ) (h0 : ¬ (0 ≤ a ∧ a < σ.1 7 1 ∧ a < 100 ∧ 0 ≤ k ∧ k < 3) → Post (some (.int (zI (-1)))) σ) : zV G shC mX6_told 0 (zini 3 [.ref (zad G 0), .int (zI a), .int (zI k)]) [] σ Post := by
  refine z_rg (fun hR => ?_)
  refine z_lv (lv' := [some (.ref (zad G 0)), some (.int (zI a)), some (.int (zI k))]) rfl ?_
  refine z_aload_0 dX6_told_0 ?_
  refine z_getR (j := 6) dX6_told_1 zf_X6_51 rfl rfl ?_
  refine z_iload_1 dX6_told_4 ?_
  refine z_iload_2 dX6_told_5 ?_
  refine z_callV mX4_part [.int (zI a), .int (zI k)] dX6_told_6 zk_X4_part zl_X6_157 ⟨Nat.le_of_ble_eq_true rfl, Nat.le_of_ble_eq_true rfl⟩ rfl rfl (Nat.le_of_ble_eq_true rfl) (Nat.le_of_ble_eq_true rfl) ?_
  refine M_X4_part a k (by omega) (by omega) (by omega) (fun i1 i2 i3 i4 i5 => ?_) (fun i1 => ?_)
  · refine z_b1 ?_
    have w1 : zR (σ.2 17 ((a * 3) + k)) := hR.2 17 ((a * 3) + k)
    refine z_iret dX6_told_9 rfl ?_
    exact h1 i1 i2 i3 i4 i5
  · refine z_b1 ?_
    refine z_iret dX6_told_9 rfl ?_
    exact h0 i1

set_option maxRecDepth 100000 in
theorem M_X6_categoryOf {G : zG} {σ : zSt} {Post : Option Value → zSt → Prop} (s : Int) (hs : zR s) (h1 : 0 ≤ s → s < 256 → Post (some (.int (zI (σ.2 8 s)))) σ) (h0 : s < 0 ∨ 256 ≤ s → Post (some (.int (zI (-2)))) σ) : zV G shC mX6_categoryOf 0 (zini 2 [.ref (zad G 0), .int (zI s)]) [] σ Post := by
  refine z_rg (fun hR => ?_)
  refine z_lv (lv' := [some (.ref (zad G 0)), some (.int (zI s))]) rfl ?_
  refine z_iload_1 dX6_categoryOf_0 ?_
  refine z_callS mX6_isSign [.int (zI s)] dX6_categoryOf_1 zk_X6_isSign zl_X6_59 ⟨Nat.le_of_ble_eq_true rfl, Nat.le_of_ble_eq_true rfl⟩ (Nat.le_of_ble_eq_true rfl) (Nat.le_of_ble_eq_true rfl) ?_
  refine M_X6_isSign s (by omega) (fun i1 i2 => ?_) (fun i1 => ?_)
  · refine z_b1 ?_
    refine z_if_eq (tgt := 18) dX6_categoryOf_4 (by decide) ⟨by decide, by decide⟩ (fun c4 => by exfalso; omega) (fun c4 => ?_)
    refine z_aload_0 dX6_categoryOf_7 ?_
    refine z_getR (j := 0) dX6_categoryOf_8 zf_X6_10 rfl rfl ?_
    refine z_iload_1 dX6_categoryOf_11 ?_
    refine z_callV mX0_at [.int (zI s)] dX6_categoryOf_12 zk_X0_at zl_X6_158 ⟨Nat.le_of_ble_eq_true rfl, Nat.le_of_ble_eq_true rfl⟩ rfl rfl (Nat.le_of_ble_eq_true rfl) (Nat.le_of_ble_eq_true rfl) ?_
    refine M_X0_at s (by omega) ?_
    refine z_b1 ?_
    have w1 := zat_R (σ.2 8) s (fun q => hR.2 8 q)
    refine z_goto (tgt := 20) dX6_categoryOf_15 (by decide) ?_
    refine z_iret dX6_categoryOf_20 rfl ?_
    exact zPe (h1 (by omega) (by omega)) (zat_in (by omega) (by omega))
  · refine z_b1 ?_
    refine z_if_eq (tgt := 18) dX6_categoryOf_4 (by decide) ⟨by decide, by decide⟩ (fun c4 => ?_) (fun c4 => by exfalso; omega)
    refine z_bipush (-2) dX6_categoryOf_18 (by decide +kernel) ?_
    refine z_iret dX6_categoryOf_20 rfl ?_
    exact h0 (by omega)

set_option maxRecDepth 100000 in
theorem M_X6_state {G : zG} {σ : zSt} {Post : Option Value → zSt → Prop} (hl0 : 0 ≤ σ.1 0 7) (hl : σ.1 0 7 ≤ 6) (h0 : σ.1 0 7 = 0 → Post (some (.int (zI (-1)))) σ) (h1 : ∀ t : Nat, t < 6 → σ.1 0 7 = (t : Int) + 1 → σ.1 (18 + t) 4 = 0 → Post (some (.int (zI (-1)))) σ) (h2 : ∀ t : Nat, t < 6 → σ.1 0 7 = (t : Int) + 1 → σ.1 (18 + t) 4 ≠ 0 → Post (some (.int (zI (σ.1 (18 + t) 7)))) σ) : zV G shC mX6_state 0 (zini 2 [.ref (zad G 0)]) [] σ Post := by
  refine z_rg (fun hR => ?_)
  refine z_lv (lv' := [some (.ref (zad G 0)), none]) rfl ?_
  refine z_aload_0 dX6_state_0 ?_
  refine z_callV mX6_topLevel [] dX6_state_1 zk_X6_topLevel zl_X6_102 ⟨Nat.le_of_ble_eq_true rfl, Nat.le_of_ble_eq_true rfl⟩ rfl rfl (Nat.le_of_ble_eq_true rfl) (Nat.le_of_ble_eq_true rfl) ?_
  refine M_X6_topLevel (by omega) (by omega) (fun t ht hte => ?_) (fun hte => ?_)
  · refine z_b1 ?_
    refine z_astore_1 dX6_state_4 (Nat.le_of_ble_eq_true rfl) rfl ?_
    refine z_aload_1 dX6_state_5 ?_
    refine z_ifnull dX6_state_6 ?_
    refine z_aload_1 dX6_state_9 ?_
    refine z_getI (j := 4) dX6_state_10 zf_X6_133 (shC_lv ht) rfl ?_
    have w1 : zR (σ.1 (18 + t) 4) := hR.1 (18 + t) 4
    refine z_if_eq (tgt := 23) dX6_state_13 (by decide) (by omega) (fun c13 => ?_) (fun c13 => ?_)
    · refine z_iconst (-1) dX6_state_23 rfl ?_
      refine z_iret dX6_state_24 rfl ?_
      first | exact h0 hte | exact h1 t ht hte (by omega)
    · refine z_aload_1 dX6_state_16 ?_
      refine z_getI (j := 7) dX6_state_17 zf_X6_161 (shC_lv ht) rfl ?_
      have w2 : zR (σ.1 (18 + t) 7) := hR.1 (18 + t) 7
      refine z_goto (tgt := 24) dX6_state_20 (by decide) ?_
      refine z_iret dX6_state_24 rfl ?_
      exact h2 t ht hte (by omega)
  · refine z_b1 ?_
    refine z_astoreNN (i := 1) dX6_state_4 rfl (by simp) (Nat.le_of_ble_eq_true rfl) (zpvS (i := 0) rfl rfl) ?_
    refine z_lv (lv' := [some (.ref (zad G 0)), some (.null)]) rfl ?_
    refine z_aloadNN (i := 1) dX6_state_5 rfl rfl ?_
    refine z_ifnullN (tgt := 23) dX6_state_6 (by decide) ?_
    refine z_iconst (-1) dX6_state_23 rfl ?_
    refine z_iret dX6_state_24 rfl ?_
    first | exact h0 hte | exact h1 t ht hte (by omega)

set_option maxRecDepth 100000 in
theorem M_X6_count {G : zG} {σ : zSt} {Post : Option Value → zSt → Prop} (q : Int) (hq : zR q) (hl0 : 0 ≤ σ.1 0 7) (hl : σ.1 0 7 ≤ 6) (h0 : q = 0 → Post (some (.int (zI (σ.1 6 1)))) σ) (h1 : q = 1 → Post (some (.int (zI (σ.1 5 3)))) σ) (h2 : q = 2 → Post (some (.int (zI (σ.1 3 3)))) σ) (h3 : q = 3 → Post (some (.int (zI (σ.1 0 7)))) σ) (h4 : q = 4 → Post (some (.int (zI (σ.1 1 2)))) σ) (h5 : q = 5 → Post (some (.int (zI (σ.1 7 1)))) σ) (h60 : q = 6 → σ.1 0 7 = 0 → Post (some (.int (zI 0))) σ) (h61 : q = 6 → ∀ t : Nat, t < 6 → σ.1 0 7 = (t : Int) + 1 → σ.1 (18 + t) 4 = 0 → Post (some (.int (zI 0))) σ) (h62 : q = 6 → ∀ t : Nat, t < 6 → σ.1 0 7 = (t : Int) + 1 → σ.1 (18 + t) 4 ≠ 0 → σ.1 (18 + t) 6 < σ.1 (18 + t) 5 → Post (some (.int (zI (σ.1 (18 + t) 5 - σ.1 (18 + t) 6)))) σ) (h63 : q = 6 → ∀ t : Nat, t < 6 → σ.1 0 7 = (t : Int) + 1 → σ.1 (18 + t) 4 ≠ 0 → σ.1 (18 + t) 5 ≤ σ.1 (18 + t) 6 → Post (some (.int (zI 0))) σ) (h7 : q = 7 → Post (some (.int (zI (σ.1 0 9)))) σ) (h8 : q < 0 ∨ 7 < q → Post (some (.int (zI (-2)))) σ) : zV G shC mX6_count 0 (zini 2 [.ref (zad G 0), .int (zI q)]) [] σ Post := by
  refine z_rg (fun hR => ?_)
  refine z_lv (lv' := [some (.ref (zad G 0)), some (.int (zI q))]) rfl ?_
  refine z_iload_1 dX6_count_0 ?_
  rcases Decidable.em (q = 0) with c1_0 | c1_0
  · refine z_top c1_0 ?_
    refine z_tabIn (tgt := 48) 0 dX6_count_1 (by omega) (by decide) (by decide) rfl (by decide) ?_
    refine z_aload_0 dX6_count_48 ?_
    refine z_getR (j := 5) dX6_count_49 zf_X6_44 rfl rfl ?_
    refine z_getI (j := 1) dX6_count_52 zf_X6_164 rfl rfl ?_
    have w1 : zR (σ.1 6 1) := hR.1 6 1
    refine z_iret dX6_count_55 rfl ?_
    exact h0 (by omega)
  rcases Decidable.em (q = 1) with c1_1 | c1_1
  · refine z_top c1_1 ?_
    refine z_tabIn (tgt := 56) 1 dX6_count_1 (by omega) (by decide) (by decide) rfl (by decide) ?_
    refine z_aload_0 dX6_count_56 ?_
    refine z_getR (j := 4) dX6_count_57 zf_X6_37 rfl rfl ?_
    refine z_getI (j := 3) dX6_count_60 zf_X6_167 rfl rfl ?_
    have w2 : zR (σ.1 5 3) := hR.1 5 3
    refine z_iret dX6_count_63 rfl ?_
    exact h1 (by omega)
  rcases Decidable.em (q = 2) with c1_2 | c1_2
  · refine z_top c1_2 ?_
    refine z_tabIn (tgt := 64) 2 dX6_count_1 (by omega) (by decide) (by decide) rfl (by decide) ?_
    refine z_aload_0 dX6_count_64 ?_
    refine z_getR (j := 2) dX6_count_65 zf_X6_23 rfl rfl ?_
    refine z_getI (j := 3) dX6_count_68 zf_X6_168 rfl rfl ?_
    have w3 : zR (σ.1 3 3) := hR.1 3 3
    refine z_iret dX6_count_71 rfl ?_
    exact h2 (by omega)
  rcases Decidable.em (q = 3) with c1_3 | c1_3
  · refine z_top c1_3 ?_
    refine z_tabIn (tgt := 72) 3 dX6_count_1 (by omega) (by decide) (by decide) rfl (by decide) ?_
    refine z_aload_0 dX6_count_72 ?_
    refine z_getI (j := 7) dX6_count_73 zf_X6_95 rfl rfl ?_
    have w4 : zR (σ.1 0 7) := hR.1 0 7
    refine z_iret dX6_count_76 rfl ?_
    exact h3 (by omega)
  rcases Decidable.em (q = 4) with c1_4 | c1_4
  · refine z_top c1_4 ?_
    refine z_tabIn (tgt := 77) 4 dX6_count_1 (by omega) (by decide) (by decide) rfl (by decide) ?_
    refine z_aload_0 dX6_count_77 ?_
    refine z_getR (j := 0) dX6_count_78 zf_X6_10 rfl rfl ?_
    refine z_getI (j := 2) dX6_count_81 zf_X6_74 rfl rfl ?_
    have w5 : zR (σ.1 1 2) := hR.1 1 2
    refine z_iret dX6_count_84 rfl ?_
    exact h4 (by omega)
  rcases Decidable.em (q = 5) with c1_5 | c1_5
  · refine z_top c1_5 ?_
    refine z_tabIn (tgt := 85) 5 dX6_count_1 (by omega) (by decide) (by decide) rfl (by decide) ?_
    refine z_aload_0 dX6_count_85 ?_
    refine z_getR (j := 6) dX6_count_86 zf_X6_51 rfl rfl ?_
    refine z_getI (j := 1) dX6_count_89 zf_X6_171 rfl rfl ?_
    have w6 : zR (σ.1 7 1) := hR.1 7 1
    refine z_iret dX6_count_92 rfl ?_
    exact h5 (by omega)
  rcases Decidable.em (q = 6) with c1_6 | c1_6
  · refine z_top c1_6 ?_
    refine z_tabIn (tgt := 93) 6 dX6_count_1 (by omega) (by decide) (by decide) rfl (by decide) ?_
    refine z_aload_0 dX6_count_93 ?_
    refine z_callV mX6_signsLeft [] dX6_count_94 zk_X6_signsLeft zl_X6_172 ⟨Nat.le_of_ble_eq_true rfl, Nat.le_of_ble_eq_true rfl⟩ rfl rfl (Nat.le_of_ble_eq_true rfl) (Nat.le_of_ble_eq_true rfl) ?_
    refine M_X6_signsLeft hl0 hl (fun i0 => ?_) (fun t ht hte i1 => ?_) (fun t ht hte i1 i2 => ?_) (fun t ht hte i1 i2 => ?_)
    · refine z_b1 ?_
      refine z_iret dX6_count_97 rfl ?_
      first | exact h60 (by omega) i0 | exact h61 (by omega) t ht hte i1 | exact h62 (by omega) t ht hte i1 i2 | exact h63 (by omega) t ht hte i1 i2
    · refine z_b1 ?_
      refine z_iret dX6_count_97 rfl ?_
      first | exact h60 (by omega) i0 | exact h61 (by omega) t ht hte i1 | exact h62 (by omega) t ht hte i1 i2 | exact h63 (by omega) t ht hte i1 i2
    · refine z_b1 ?_
      refine z_iret dX6_count_97 rfl ?_
      first | exact h60 (by omega) i0 | exact h61 (by omega) t ht hte i1 | exact h62 (by omega) t ht hte i1 i2 | exact h63 (by omega) t ht hte i1 i2
    · refine z_b1 ?_
      refine z_iret dX6_count_97 rfl ?_
      first | exact h60 (by omega) i0 | exact h61 (by omega) t ht hte i1 | exact h62 (by omega) t ht hte i1 i2 | exact h63 (by omega) t ht hte i1 i2
  rcases Decidable.em (q = 7) with c1_7 | c1_7
  · refine z_top c1_7 ?_
    refine z_tabIn (tgt := 98) 7 dX6_count_1 (by omega) (by decide) (by decide) rfl (by decide) ?_
    refine z_aload_0 dX6_count_98 ?_
    refine z_getI (j := 9) dX6_count_99 zf_X6_175 rfl rfl ?_
    have w7 : zR (σ.1 0 9) := hR.1 0 9
    refine z_iret dX6_count_102 rfl ?_
    exact h7 (by omega)
  refine z_tabOut (tgt := 103) dX6_count_1 (by omega) (by omega) (by decide) ?_
  refine z_bipush (-2) dX6_count_103 (by decide +kernel) ?_
  refine z_iret dX6_count_105 rfl ?_
  exact h8 (by omega)

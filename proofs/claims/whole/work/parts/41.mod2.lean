theorem zst_dg {row : Int → Int} {len p : Int} (q : 0 ≤ zdig (zst row len p)) : p < len := by
  rcases Decidable.em (p < len) with hh | hh
  · exact hh
  · rw [zst_out (by omega)] at q; exact absurd q (by decide)
def zmr (r : Int → Int) (t : Int) : Int → Int := fun q => r (128 * t + q)
theorem zsee_rg {cats row : Int → Int} {len : Int} (hr : ∀ q, 0 ≤ row q ∧ row q ≤ 255) : ∀ (n : Nat) (s b : Int), 0 ≤ s → s ≤ 255 → 0 ≤ b → b ≤ len → 0 ≤ (zsee cats row len n s b).1 ∧ (zsee cats row len n s b).1 ≤ 255 ∧ b ≤ (zsee cats row len n s b).2 ∧ (zsee cats row len n s b).2 ≤ len := by
  intro n
  induction n with
  | zero => intro s b h0 h1 h2 h3; exact ⟨h0, h1, Int.le_refl _, h3⟩
  | succ n ih =>
    intro s b h0 h1 h2 h3
    rcases Classical.em (zseeP cats row len s b) with hp | hp
    · have q := zst_lt hp.2.2.1
      have d1 := zdig_R (zst row len (b + 1))
      have d2 := zdig_R (zst row len (b + 2))
      obtain ⟨-, -, p3, p4⟩ := id hp
      by_cases hd : 0 ≤ zdig (zst row len (b + 1)) ∧ 0 ≤ zdig (zst row len (b + 2))
      · have q2 : b + 2 < len := by
          rcases Decidable.em (b + 2 < len) with hh | hh
          · exact hh
          · have := hd.2; rw [zst_out (by omega)] at this; exact absurd this (by decide)
        rw [zsee_1 hp hd.1 hd.2]
        have := ih (16 * zdig (zst row len (b + 1)) + zdig (zst row len (b + 2))) (b + 3) (by omega) (by omega) (by omega) (by omega)
        omega
      · by_cases h6 : zst row len (b + 1) < 64
        · rw [zsee_2 hp hd h6]
          have := ih (zst row len (b + 1) + 64) (b + 2) (by omega) (by omega) (by omega) (by omega)
          omega
        · rw [zsee_3 hp hd (by omega)]
          have := ih (zst row len (b + 1) - 64) (b + 2) (by omega) (by omega) (by omega) (by omega)
          omega
    · rw [zsee_0 hp]; exact ⟨h0, h1, Int.le_refl _, h3⟩

set_option maxRecDepth 100000 in
theorem M_X7_standing {G : zG} {σ : zSt} {Post : Option Value → zSt → Prop} (T : Int) (hT0 : 0 ≤ T) (hT6 : T < 6) (hT : σ.1 0 10 = T + 1) (z : Int) (hz0 : 0 ≤ z) (hz : zR z) (hl : σ.2 10 T ≤ 121) (h : Post (some (.int (zI (zst (zmr (σ.2 9) T) (σ.2 10 T) z)))) σ) : zV G shM mX7_standing 0 (zini 3 [.ref (zad G 0), .int (zI z)]) [] σ Post := by
  refine z_rg (fun hR => ?_)
  refine z_lv (lv' := [some (.ref (zad G 0)), some (.int (zI z)), none]) rfl ?_
  refine z_aload_0 dX7_standing_0 ?_
  refine z_getI (j := 10) dX7_standing_1 zf_X7_90 rfl rfl ?_
  have w1 : zR (σ.1 0 10) := hR.1 0 10
  refine z_iconst 1 dX7_standing_4 rfl ?_
  refine z_isub dX7_standing_5 ?_
  refine z_top (b := T) (by omega) ?_
  refine z_istore_2 dX7_standing_6 (Nat.le_of_ble_eq_true rfl) rfl ?_
  refine z_iload_1 dX7_standing_7 ?_
  refine z_aload_0 dX7_standing_8 ?_
  refine z_getR (j := 14) dX7_standing_9 zf_X7_42 rfl rfl ?_
  refine z_iload_2 dX7_standing_12 ?_
  refine z_iald dX7_standing_13 rfl (by decide) (by omega) (by omega) ?_
  have w2 : zR (σ.2 10 T) := hR.2 10 T
  refine z_icmp_ge (tgt := 32) dX7_standing_14 (by decide) (by omega) (by omega) (fun c14 => ?_) (fun c14 => ?_)
  · refine z_iconst (-1) dX7_standing_32 rfl ?_
    refine z_iret dX7_standing_33 rfl ?_
    exact zPe h (zst_out (by omega)).symm
  · refine z_aload_0 dX7_standing_17 ?_
    refine z_getR (j := 13) dX7_standing_18 zf_X7_39 rfl rfl ?_
    refine z_sipush 128 dX7_standing_21 (by decide +kernel) ?_
    refine z_iload_2 dX7_standing_24 ?_
    refine z_imul dX7_standing_25 ?_
    refine z_iload_1 dX7_standing_26 ?_
    refine z_iadd dX7_standing_27 ?_
    refine z_iald dX7_standing_28 rfl (by decide) (by omega) (by omega) ?_
    have w3 : zR (σ.2 9 ((128 * T) + z)) := hR.2 9 ((128 * T) + z)
    refine z_goto (tgt := 33) dX7_standing_29 (by decide) ?_
    refine z_iret dX7_standing_33 rfl ?_
    exact zPe h (zst_in (row := (zmr (σ.2 9) T)) (by omega) (by omega)).symm

set_option maxRecDepth 100000 in
theorem L_X7_see {G : zG} {σ : zSt} {Post : Option Value → zSt → Prop} (T : Int) (hT0 : 0 ≤ T) (hT6 : T < 6) (hT : σ.1 0 10 = T + 1) (z : Int) (hR : zRg σ) (hz0 : 0 ≤ z) (hl : σ.2 10 T ≤ 121) (hrw : ∀ q, 0 ≤ σ.2 9 q ∧ σ.2 9 q ≤ 255) : ∀ (m : Nat) (s w : Int) (y2 y3 : Option Value) (hs0 : 0 ≤ s) (hs1 : s ≤ 255) (hw1 : 1 ≤ w) (hzw : z + w ≤ σ.2 10 T) (hm : σ.2 10 T - (z + w) < m) (h : Post none (zsF (zsF σ 0 26 (zsee (σ.2 1) (zmr (σ.2 9) T) (σ.2 10 T) m s (z + w)).1) 0 27 ((zsee (σ.2 1) (zmr (σ.2 9) T) (σ.2 10 T) m s (z + w)).2 - z))), zV G shM mX7_see 14 [some (.ref (zad G 0)), some (.int (zI z)), y2, y3] [] (zsF (zsF σ 0 26 s) 0 27 w) Post := by
  intro m
  induction m with
  | zero =>
    intro s w y2 y3 hs0 hs1 hw1 hzw hm h
    exfalso
    omega
  | succ m ih =>
    intro s w y2 y3 hs0 hs1 hw1 hzw hm h
    have ez : zat (σ.2 1) s = σ.2 1 s := zat_in (by omega) (by omega)
    refine z_aload_0 dX7_see_14 ?_
    refine z_getR (j := 1) dX7_see_15 zf_X7_7 rfl rfl ?_
    refine z_aload_0 dX7_see_18 ?_
    refine z_getI (j := 26) dX7_see_19 zf_X7_104 rfl rfl ?_
    refine z_top (b := s) ((zsF_ne (by omega)).trans zsF_eq) ?_
    refine z_iald dX7_see_22 rfl (by decide) (by omega) (by omega) ?_
    refine z_top (b := σ.2 1 s) (zsF_A.trans zsF_A) ?_
    have w1 : zR (σ.2 1 s) := hR.2 1 s
    refine z_bipush 7 dX7_see_23 (by decide +kernel) ?_
    refine z_icmp_ne (tgt := 166) dX7_see_25 (by decide) (by omega) ⟨by decide, by decide⟩ (fun c25 => ?_) (fun c25 => ?_)
    · refine z_vret dX7_see_166 rfl ?_
      rw [zsee_0 (fun q => by obtain ⟨q1, q2, q3, q4⟩ := q; omega), show z + w - z = w by omega] at h
      exact h
    · refine z_aload_0 dX7_see_28 ?_
      refine z_iload_1 dX7_see_29 ?_
      refine z_aload_0 dX7_see_30 ?_
      refine z_getI (j := 27) dX7_see_31 zf_X7_107 rfl rfl ?_
      refine z_top (b := w) zsF_eq ?_
      refine z_iadd dX7_see_34 ?_
      refine z_callV mX7_standing [.int (zI (z + w))] dX7_see_35 zk_X7_standing zl_X7_100 ⟨Nat.le_of_ble_eq_true rfl, Nat.le_of_ble_eq_true rfl⟩ rfl rfl (Nat.le_of_ble_eq_true rfl) (Nat.le_of_ble_eq_true rfl) ?_
      refine M_X7_standing T hT0 hT6 (zeqE (b := σ.1 0 10) ((zsF_ne (by omega)).trans (zsF_ne (by omega))) (by omega)) (z + w) (by omega) (by omega) (zleE (b := σ.2 10 T) (zsF_A.trans zsF_A) (by omega)) ?_
      refine z_b1 ?_
      refine z_top (b := (zst (zmr (σ.2 9) T) (σ.2 10 T) (z + w))) (zst_cg (congrArg (fun r => zmr r T) (zsF_W.trans zsF_W)) (zsF_A.trans zsF_A)) ?_
      have w2 := zst_R (zmr (σ.2 9) T) (σ.2 10 T) (z + w) (fun q => hR.2 9 _)
      refine z_aload_0 dX7_see_38 ?_
      refine z_getI (j := 26) dX7_see_39 zf_X7_104 rfl rfl ?_
      refine z_top (b := s) ((zsF_ne (by omega)).trans zsF_eq) ?_
      refine z_icmp_ne (tgt := 166) dX7_see_42 (by decide) (by omega) (by omega) (fun c42 => ?_) (fun c42 => ?_)
      · refine z_vret dX7_see_166 rfl ?_
        rw [zsee_0 (fun q => by obtain ⟨q1, q2, q3, q4⟩ := q; omega), show z + w - z = w by omega] at h
        exact h
      · refine z_aload_0 dX7_see_45 ?_
        refine z_iload_1 dX7_see_46 ?_
        refine z_aload_0 dX7_see_47 ?_
        refine z_getI (j := 27) dX7_see_48 zf_X7_107 rfl rfl ?_
        refine z_top (b := w) zsF_eq ?_
        refine z_iadd dX7_see_51 ?_
        refine z_iconst 1 dX7_see_52 rfl ?_
        refine z_iadd dX7_see_53 ?_
        refine z_callV mX7_standing [.int (zI ((z + w) + 1))] dX7_see_54 zk_X7_standing zl_X7_100 ⟨Nat.le_of_ble_eq_true rfl, Nat.le_of_ble_eq_true rfl⟩ rfl rfl (Nat.le_of_ble_eq_true rfl) (Nat.le_of_ble_eq_true rfl) ?_
        refine M_X7_standing T hT0 hT6 (zeqE (b := σ.1 0 10) ((zsF_ne (by omega)).trans (zsF_ne (by omega))) (by omega)) ((z + w) + 1) (by omega) (by omega) (zleE (b := σ.2 10 T) (zsF_A.trans zsF_A) (by omega)) ?_
        refine z_b1 ?_
        refine z_top (b := (zst (zmr (σ.2 9) T) (σ.2 10 T) ((z + w) + 1))) (zst_cg (congrArg (fun r => zmr r T) (zsF_W.trans zsF_W)) (zsF_A.trans zsF_A)) ?_
        have w3 := zst_R (zmr (σ.2 9) T) (σ.2 10 T) ((z + w) + 1) (fun q => hR.2 9 _)
        refine z_callS mX7_isLow [.int (zI (zst (zmr (σ.2 9) T) (σ.2 10 T) ((z + w) + 1)))] dX7_see_57 zk_X7_isLow zl_X7_110 ⟨Nat.le_of_ble_eq_true rfl, Nat.le_of_ble_eq_true rfl⟩ (Nat.le_of_ble_eq_true rfl) (Nat.le_of_ble_eq_true rfl) ?_
        refine M_X7_isLow (zst (zmr (σ.2 9) T) (σ.2 10 T) ((z + w) + 1)) (by omega) (fun i1 i2 => ?_) (fun i1 => ?_)
        · refine z_b1 ?_
          refine z_if_eq (tgt := 166) dX7_see_60 (by decide) ⟨by decide, by decide⟩ (fun c60 => by exfalso; omega) (fun c60 => ?_)
          refine z_aload_0 dX7_see_63 ?_
          refine z_iload_1 dX7_see_64 ?_
          refine z_aload_0 dX7_see_65 ?_
          refine z_getI (j := 27) dX7_see_66 zf_X7_107 rfl rfl ?_
          refine z_top (b := w) zsF_eq ?_
          refine z_iadd dX7_see_69 ?_
          refine z_iconst 1 dX7_see_70 rfl ?_
          refine z_iadd dX7_see_71 ?_
          refine z_callV mX7_standing [.int (zI ((z + w) + 1))] dX7_see_72 zk_X7_standing zl_X7_100 ⟨Nat.le_of_ble_eq_true rfl, Nat.le_of_ble_eq_true rfl⟩ rfl rfl (Nat.le_of_ble_eq_true rfl) (Nat.le_of_ble_eq_true rfl) ?_
          refine M_X7_standing T hT0 hT6 (zeqE (b := σ.1 0 10) ((zsF_ne (by omega)).trans (zsF_ne (by omega))) (by omega)) ((z + w) + 1) (by omega) (by omega) (zleE (b := σ.2 10 T) (zsF_A.trans zsF_A) (by omega)) ?_
          refine z_b1 ?_
          refine z_top (b := (zst (zmr (σ.2 9) T) (σ.2 10 T) ((z + w) + 1))) (zst_cg (congrArg (fun r => zmr r T) (zsF_W.trans zsF_W)) (zsF_A.trans zsF_A)) ?_
          have w4 := zst_R (zmr (σ.2 9) T) (σ.2 10 T) ((z + w) + 1) (fun q => hR.2 9 _)
          refine z_istore_2 dX7_see_75 (Nat.le_of_ble_eq_true rfl) rfl ?_
          refine z_aload_0 dX7_see_76 ?_
          refine z_iload_1 dX7_see_77 ?_
          refine z_aload_0 dX7_see_78 ?_
          refine z_getI (j := 27) dX7_see_79 zf_X7_107 rfl rfl ?_
          refine z_top (b := w) zsF_eq ?_
          refine z_iadd dX7_see_82 ?_
          refine z_iconst 2 dX7_see_83 rfl ?_
          refine z_iadd dX7_see_84 ?_
          refine z_callV mX7_standing [.int (zI ((z + w) + 2))] dX7_see_85 zk_X7_standing zl_X7_100 ⟨Nat.le_of_ble_eq_true rfl, Nat.le_of_ble_eq_true rfl⟩ rfl rfl (Nat.le_of_ble_eq_true rfl) (Nat.le_of_ble_eq_true rfl) ?_
          refine M_X7_standing T hT0 hT6 (zeqE (b := σ.1 0 10) ((zsF_ne (by omega)).trans (zsF_ne (by omega))) (by omega)) ((z + w) + 2) (by omega) (by omega) (zleE (b := σ.2 10 T) (zsF_A.trans zsF_A) (by omega)) ?_
          refine z_b1 ?_
          refine z_top (b := (zst (zmr (σ.2 9) T) (σ.2 10 T) ((z + w) + 2))) (zst_cg (congrArg (fun r => zmr r T) (zsF_W.trans zsF_W)) (zsF_A.trans zsF_A)) ?_
          have w5 := zst_R (zmr (σ.2 9) T) (σ.2 10 T) ((z + w) + 2) (fun q => hR.2 9 _)
          refine z_istore_3 dX7_see_88 (Nat.le_of_ble_eq_true rfl) rfl ?_
          refine z_iload_2 dX7_see_89 ?_
          refine z_callS mX7_digit [.int (zI (zst (zmr (σ.2 9) T) (σ.2 10 T) ((z + w) + 1)))] dX7_see_90 zk_X7_digit zl_X7_113 ⟨Nat.le_of_ble_eq_true rfl, Nat.le_of_ble_eq_true rfl⟩ (Nat.le_of_ble_eq_true rfl) (Nat.le_of_ble_eq_true rfl) ?_
          refine M_X7_digit (zst (zmr (σ.2 9) T) (σ.2 10 T) ((z + w) + 1)) (by omega) ?_
          refine z_b1 ?_
          have w6 := zdig_R (zst (zmr (σ.2 9) T) (σ.2 10 T) ((z + w) + 1))
          refine z_if_lt (tgt := 132) dX7_see_93 (by decide) (by omega) (fun c93 => ?_) (fun c93 => ?_)
          · refine z_aload_0 dX7_see_132 ?_
            refine z_iload_2 dX7_see_133 ?_
            refine z_bipush 64 dX7_see_134 (by decide +kernel) ?_
            refine z_icmp_ge (tgt := 146) dX7_see_136 (by decide) (by omega) ⟨by decide, by decide⟩ (fun c136 => ?_) (fun c136 => ?_)
            · refine z_iload_2 dX7_see_146 ?_
              refine z_bipush 64 dX7_see_147 (by decide +kernel) ?_
              refine z_isub dX7_see_149 ?_
              refine z_putI (j := 26) dX7_see_150 zp_X7_104 rfl rfl (by omega) ?_
              refine z_aload_0 dX7_see_153 ?_
              refine z_aload_0 dX7_see_154 ?_
              refine z_getI (j := 27) dX7_see_155 zf_X7_107 rfl rfl ?_
              refine z_top (b := w) ((zsF_ne (by omega)).trans zsF_eq) ?_
              refine z_iconst 2 dX7_see_158 rfl ?_
              refine z_iadd dX7_see_159 ?_
              refine z_putI (j := 27) dX7_see_160 zp_X7_107 rfl rfl (by omega) ?_
              refine z_goto (tgt := 14) dX7_see_163 (by decide) ?_
              have iP : zseeP (σ.2 1) (zmr (σ.2 9) T) (σ.2 10 T) s (z + w) := ⟨by omega, by omega, by omega, by omega⟩
              have hq := zst_lt iP.2.2.1
              have hd1 := zdig_R (zst (zmr (σ.2 9) T) (σ.2 10 T) (z + w + 1))
              have hd2 := zdig_R (zst (zmr (σ.2 9) T) (σ.2 10 T) (z + w + 2))
              have hq2 : 0 ≤ zdig (zst (zmr (σ.2 9) T) (σ.2 10 T) (z + w + 2)) → z + w + 2 < σ.2 10 T := zst_dg
              rw [zsee_3 iP (by omega) (by omega), show z + w + 2 = z + (w + 2) by omega] at h
              exact z_st (zsF_2 (by decide)) (ih _ (w + 2) _ _ (by omega) (by omega) (by omega) (by omega) (by omega) h)
            · refine z_iload_2 dX7_see_139 ?_
              refine z_bipush 64 dX7_see_140 (by decide +kernel) ?_
              refine z_iadd dX7_see_142 ?_
              refine z_goto (tgt := 150) dX7_see_143 (by decide) ?_
              refine z_putI (j := 26) dX7_see_150 zp_X7_104 rfl rfl (by omega) ?_
              refine z_aload_0 dX7_see_153 ?_
              refine z_aload_0 dX7_see_154 ?_
              refine z_getI (j := 27) dX7_see_155 zf_X7_107 rfl rfl ?_
              refine z_top (b := w) ((zsF_ne (by omega)).trans zsF_eq) ?_
              refine z_iconst 2 dX7_see_158 rfl ?_
              refine z_iadd dX7_see_159 ?_
              refine z_putI (j := 27) dX7_see_160 zp_X7_107 rfl rfl (by omega) ?_
              refine z_goto (tgt := 14) dX7_see_163 (by decide) ?_
              have iP : zseeP (σ.2 1) (zmr (σ.2 9) T) (σ.2 10 T) s (z + w) := ⟨by omega, by omega, by omega, by omega⟩
              have hq := zst_lt iP.2.2.1
              have hd1 := zdig_R (zst (zmr (σ.2 9) T) (σ.2 10 T) (z + w + 1))
              have hd2 := zdig_R (zst (zmr (σ.2 9) T) (σ.2 10 T) (z + w + 2))
              have hq2 : 0 ≤ zdig (zst (zmr (σ.2 9) T) (σ.2 10 T) (z + w + 2)) → z + w + 2 < σ.2 10 T := zst_dg
              rw [zsee_2 iP (by omega) (by omega), show z + w + 2 = z + (w + 2) by omega] at h
              exact z_st (zsF_2 (by decide)) (ih _ (w + 2) _ _ (by omega) (by omega) (by omega) (by omega) (by omega) h)
          · refine z_iload_3 dX7_see_96 ?_
            refine z_callS mX7_digit [.int (zI (zst (zmr (σ.2 9) T) (σ.2 10 T) ((z + w) + 2)))] dX7_see_97 zk_X7_digit zl_X7_113 ⟨Nat.le_of_ble_eq_true rfl, Nat.le_of_ble_eq_true rfl⟩ (Nat.le_of_ble_eq_true rfl) (Nat.le_of_ble_eq_true rfl) ?_
            refine M_X7_digit (zst (zmr (σ.2 9) T) (σ.2 10 T) ((z + w) + 2)) (by omega) ?_
            refine z_b1 ?_
            have w7 := zdig_R (zst (zmr (σ.2 9) T) (σ.2 10 T) ((z + w) + 2))
            refine z_if_lt (tgt := 132) dX7_see_100 (by decide) (by omega) (fun c100 => ?_) (fun c100 => ?_)
            · refine z_aload_0 dX7_see_132 ?_
              refine z_iload_2 dX7_see_133 ?_
              refine z_bipush 64 dX7_see_134 (by decide +kernel) ?_
              refine z_icmp_ge (tgt := 146) dX7_see_136 (by decide) (by omega) ⟨by decide, by decide⟩ (fun c136 => ?_) (fun c136 => ?_)
              · refine z_iload_2 dX7_see_146 ?_
                refine z_bipush 64 dX7_see_147 (by decide +kernel) ?_
                refine z_isub dX7_see_149 ?_
                refine z_putI (j := 26) dX7_see_150 zp_X7_104 rfl rfl (by omega) ?_
                refine z_aload_0 dX7_see_153 ?_
                refine z_aload_0 dX7_see_154 ?_
                refine z_getI (j := 27) dX7_see_155 zf_X7_107 rfl rfl ?_
                refine z_top (b := w) ((zsF_ne (by omega)).trans zsF_eq) ?_
                refine z_iconst 2 dX7_see_158 rfl ?_
                refine z_iadd dX7_see_159 ?_
                refine z_putI (j := 27) dX7_see_160 zp_X7_107 rfl rfl (by omega) ?_
                refine z_goto (tgt := 14) dX7_see_163 (by decide) ?_
                have iP : zseeP (σ.2 1) (zmr (σ.2 9) T) (σ.2 10 T) s (z + w) := ⟨by omega, by omega, by omega, by omega⟩
                have hq := zst_lt iP.2.2.1
                have hd1 := zdig_R (zst (zmr (σ.2 9) T) (σ.2 10 T) (z + w + 1))
                have hd2 := zdig_R (zst (zmr (σ.2 9) T) (σ.2 10 T) (z + w + 2))
                have hq2 : 0 ≤ zdig (zst (zmr (σ.2 9) T) (σ.2 10 T) (z + w + 2)) → z + w + 2 < σ.2 10 T := zst_dg
                rw [zsee_3 iP (by omega) (by omega), show z + w + 2 = z + (w + 2) by omega] at h
                exact z_st (zsF_2 (by decide)) (ih _ (w + 2) _ _ (by omega) (by omega) (by omega) (by omega) (by omega) h)
              · refine z_iload_2 dX7_see_139 ?_
                refine z_bipush 64 dX7_see_140 (by decide +kernel) ?_
                refine z_iadd dX7_see_142 ?_
                refine z_goto (tgt := 150) dX7_see_143 (by decide) ?_
                refine z_putI (j := 26) dX7_see_150 zp_X7_104 rfl rfl (by omega) ?_
                refine z_aload_0 dX7_see_153 ?_
                refine z_aload_0 dX7_see_154 ?_
                refine z_getI (j := 27) dX7_see_155 zf_X7_107 rfl rfl ?_
                refine z_top (b := w) ((zsF_ne (by omega)).trans zsF_eq) ?_
                refine z_iconst 2 dX7_see_158 rfl ?_
                refine z_iadd dX7_see_159 ?_
                refine z_putI (j := 27) dX7_see_160 zp_X7_107 rfl rfl (by omega) ?_
                refine z_goto (tgt := 14) dX7_see_163 (by decide) ?_
                have iP : zseeP (σ.2 1) (zmr (σ.2 9) T) (σ.2 10 T) s (z + w) := ⟨by omega, by omega, by omega, by omega⟩
                have hq := zst_lt iP.2.2.1
                have hd1 := zdig_R (zst (zmr (σ.2 9) T) (σ.2 10 T) (z + w + 1))
                have hd2 := zdig_R (zst (zmr (σ.2 9) T) (σ.2 10 T) (z + w + 2))
                have hq2 : 0 ≤ zdig (zst (zmr (σ.2 9) T) (σ.2 10 T) (z + w + 2)) → z + w + 2 < σ.2 10 T := zst_dg
                rw [zsee_2 iP (by omega) (by omega), show z + w + 2 = z + (w + 2) by omega] at h
                exact z_st (zsF_2 (by decide)) (ih _ (w + 2) _ _ (by omega) (by omega) (by omega) (by omega) (by omega) h)
            · refine z_aload_0 dX7_see_103 ?_
              refine z_bipush 16 dX7_see_104 (by decide +kernel) ?_
              refine z_iload_2 dX7_see_106 ?_
              refine z_callS mX7_digit [.int (zI (zst (zmr (σ.2 9) T) (σ.2 10 T) ((z + w) + 1)))] dX7_see_107 zk_X7_digit zl_X7_113 ⟨Nat.le_of_ble_eq_true rfl, Nat.le_of_ble_eq_true rfl⟩ (Nat.le_of_ble_eq_true rfl) (Nat.le_of_ble_eq_true rfl) ?_
              refine M_X7_digit (zst (zmr (σ.2 9) T) (σ.2 10 T) ((z + w) + 1)) (by omega) ?_
              refine z_b1 ?_
              have w8 := zdig_R (zst (zmr (σ.2 9) T) (σ.2 10 T) ((z + w) + 1))
              refine z_imul dX7_see_110 ?_
              refine z_iload_3 dX7_see_111 ?_
              refine z_callS mX7_digit [.int (zI (zst (zmr (σ.2 9) T) (σ.2 10 T) ((z + w) + 2)))] dX7_see_112 zk_X7_digit zl_X7_113 ⟨Nat.le_of_ble_eq_true rfl, Nat.le_of_ble_eq_true rfl⟩ (Nat.le_of_ble_eq_true rfl) (Nat.le_of_ble_eq_true rfl) ?_
              refine M_X7_digit (zst (zmr (σ.2 9) T) (σ.2 10 T) ((z + w) + 2)) (by omega) ?_
              refine z_b1 ?_
              have w9 := zdig_R (zst (zmr (σ.2 9) T) (σ.2 10 T) ((z + w) + 2))
              refine z_iadd dX7_see_115 ?_
              refine z_putI (j := 26) dX7_see_116 zp_X7_104 rfl rfl (by omega) ?_
              refine z_aload_0 dX7_see_119 ?_
              refine z_aload_0 dX7_see_120 ?_
              refine z_getI (j := 27) dX7_see_121 zf_X7_107 rfl rfl ?_
              refine z_top (b := w) ((zsF_ne (by omega)).trans zsF_eq) ?_
              refine z_iconst 3 dX7_see_124 rfl ?_
              refine z_iadd dX7_see_125 ?_
              refine z_putI (j := 27) dX7_see_126 zp_X7_107 rfl rfl (by omega) ?_
              refine z_goto (tgt := 163) dX7_see_129 (by decide) ?_
              refine z_goto (tgt := 14) dX7_see_163 (by decide) ?_
              have iP : zseeP (σ.2 1) (zmr (σ.2 9) T) (σ.2 10 T) s (z + w) := ⟨by omega, by omega, by omega, by omega⟩
              have hq := zst_lt iP.2.2.1
              have hd1 := zdig_R (zst (zmr (σ.2 9) T) (σ.2 10 T) (z + w + 1))
              have hd2 := zdig_R (zst (zmr (σ.2 9) T) (σ.2 10 T) (z + w + 2))
              have hq2 : 0 ≤ zdig (zst (zmr (σ.2 9) T) (σ.2 10 T) (z + w + 2)) → z + w + 2 < σ.2 10 T := zst_dg
              rw [zsee_1 iP (by omega) (by omega), show z + w + 3 = z + (w + 3) by omega] at h
              exact z_st (zsF_2 (by decide)) (ih _ (w + 3) _ _ (by omega) (by omega) (by omega) (by omega) (by omega) h)
        · refine z_b1 ?_
          refine z_if_eq (tgt := 166) dX7_see_60 (by decide) ⟨by decide, by decide⟩ (fun c60 => ?_) (fun c60 => by exfalso; omega)
          refine z_vret dX7_see_166 rfl ?_
          rw [zsee_0 (fun q => by obtain ⟨q1, q2, q3, q4⟩ := q; omega), show z + w - z = w by omega] at h
          exact h

set_option maxRecDepth 100000 in
theorem M_X7_see {G : zG} {σ : zSt} {Post : Option Value → zSt → Prop} (T : Int) (hT0 : 0 ≤ T) (hT6 : T < 6) (hT : σ.1 0 10 = T + 1) (z : Int) (hz0 : 0 ≤ z) (hz : z < σ.2 10 T) (hl : σ.2 10 T ≤ 121) (hrw : ∀ q, 0 ≤ σ.2 9 q ∧ σ.2 9 q ≤ 255) (h : Post none (zsF (zsF σ 0 26 (zsee (σ.2 1) (zmr (σ.2 9) T) (σ.2 10 T) ((σ.2 10 T)).toNat (zst (zmr (σ.2 9) T) (σ.2 10 T) z) (z + 1)).1) 0 27 ((zsee (σ.2 1) (zmr (σ.2 9) T) (σ.2 10 T) ((σ.2 10 T)).toNat (zst (zmr (σ.2 9) T) (σ.2 10 T) z) (z + 1)).2 - z))) : zV G shM mX7_see 0 (zini 4 [.ref (zad G 0), .int (zI z)]) [] σ Post := by
  refine z_rg (fun hR => ?_)
  refine z_lv (lv' := [some (.ref (zad G 0)), some (.int (zI z)), none, none]) rfl ?_
  have hz1 : zst (zmr (σ.2 9) T) (σ.2 10 T) z = σ.2 9 (128 * T + z) := zst_in hz0 hz
  have hrw1 := hrw (128 * T + z)
  refine z_aload_0 dX7_see_0 ?_
  refine z_aload_0 dX7_see_1 ?_
  refine z_iload_1 dX7_see_2 ?_
  refine z_callV mX7_standing [.int (zI z)] dX7_see_3 zk_X7_standing zl_X7_100 ⟨Nat.le_of_ble_eq_true rfl, Nat.le_of_ble_eq_true rfl⟩ rfl rfl (Nat.le_of_ble_eq_true rfl) (Nat.le_of_ble_eq_true rfl) ?_
  refine M_X7_standing T hT0 hT6 (by omega) z (by omega) (by omega) (by omega) ?_
  refine z_b1 ?_
  have w1 := zst_R (zmr (σ.2 9) T) (σ.2 10 T) z (fun q => hR.2 9 _)
  refine z_putI (j := 26) dX7_see_6 zp_X7_104 rfl rfl (by omega) ?_
  refine z_aload_0 dX7_see_9 ?_
  refine z_iconst 1 dX7_see_10 rfl ?_
  refine z_putI (j := 27) dX7_see_11 zp_X7_107 rfl rfl ⟨by decide, by decide⟩ ?_
  exact L_X7_see T hT0 hT6 hT z hR hz0 hl hrw (σ.2 10 T).toNat (zst (zmr (σ.2 9) T) (σ.2 10 T) z) 1 none none (by omega) (by omega) (by omega) (by omega) (by omega) h

set_option maxRecDepth 100000 in
theorem M_X7_addToWord {G : zG} {σ : zSt} {Post : Option Value → zSt → Prop} (n : Int) (hn0 : 0 ≤ n) (hn : n ≤ 1000) (h1 : n < 40 → Post none (zsF (zsA σ 18 n (σ.1 0 26)) 0 29 (n + 1))) (h0 : 40 ≤ n → Post none σ) : zV G shM mX7_addToWord 0 (zini 2 [.ref (zad G 0), .int (zI n)]) [] σ Post := by
  refine z_rg (fun hR => ?_)
  refine z_lv (lv' := [some (.ref (zad G 0)), some (.int (zI n))]) rfl ?_
  refine z_iload_1 dX7_addToWord_0 ?_
  refine z_bipush 40 dX7_addToWord_1 (by decide +kernel) ?_
  refine z_icmp_ge (tgt := 23) dX7_addToWord_3 (by decide) (by omega) ⟨by decide, by decide⟩ (fun c3 => ?_) (fun c3 => ?_)
  · refine z_vret dX7_addToWord_23 rfl ?_
    first | exact h1 (by omega) | exact h0 (by omega)
  · refine z_aload_0 dX7_addToWord_6 ?_
    refine z_getR (j := 28) dX7_addToWord_7 zf_X7_66 rfl rfl ?_
    refine z_iload_1 dX7_addToWord_10 ?_
    refine z_aload_0 dX7_addToWord_11 ?_
    refine z_getI (j := 26) dX7_addToWord_12 zf_X7_104 rfl rfl ?_
    have w1 : zR (σ.1 0 26) := hR.1 0 26
    refine z_iast dX7_addToWord_15 rfl (by decide) (by omega) (by omega) (by omega) ?_
    refine z_aload_0 dX7_addToWord_16 ?_
    refine z_iload_1 dX7_addToWord_17 ?_
    refine z_iconst 1 dX7_addToWord_18 rfl ?_
    refine z_iadd dX7_addToWord_19 ?_
    refine z_putI (j := 29) dX7_addToWord_20 zp_X7_122 rfl rfl (by omega) ?_
    refine z_vret dX7_addToWord_23 rfl ?_
    first | exact h1 (by omega) | exact h0 (by omega)

set_option maxRecDepth 100000 in
theorem M_X7_tell {G : zG} {σ : zSt} {Post : Option Value → zSt → Prop} (a c : Int) (ha : zR a) (hc : zR c) (hs0 : 0 ≤ σ.1 0 24) (hs : σ.1 0 24 < 2147483647) (h1 : σ.1 0 24 < 100 → Post none (zsF (zrp σ 17 (3 * σ.1 0 24) a (σ.1 0 19) c) 0 24 (σ.1 0 24 + 1))) (h0 : 100 ≤ σ.1 0 24 → Post none (zsF σ 0 24 (σ.1 0 24 + 1))) : zV G shM mX7_tell 0 (zini 3 [.ref (zad G 0), .int (zI a), .int (zI c)]) [] σ Post := by
  refine z_rg (fun hR => ?_)
  refine z_lv (lv' := [some (.ref (zad G 0)), some (.int (zI a)), some (.int (zI c))]) rfl ?_
  refine z_aload_0 dX7_tell_0 ?_
  refine z_getI (j := 24) dX7_tell_1 zf_X7_116 rfl rfl ?_
  have w1 : zR (σ.1 0 24) := hR.1 0 24
  refine z_bipush 100 dX7_tell_4 (by decide +kernel) ?_
  refine z_icmp_ge (tgt := 52) dX7_tell_6 (by decide) (by omega) ⟨by decide, by decide⟩ (fun c6 => ?_) (fun c6 => ?_)
  · refine z_aload_0 dX7_tell_52 ?_
    refine z_dup dX7_tell_53 rfl ?_
    refine z_getI (j := 24) dX7_tell_54 zf_X7_116 rfl rfl ?_
    have w2 : zR (σ.1 0 24) := hR.1 0 24
    refine z_iconst 1 dX7_tell_57 rfl ?_
    refine z_iadd dX7_tell_58 ?_
    refine z_putI (j := 24) dX7_tell_59 zp_X7_116 rfl rfl (by omega) ?_
    refine z_vret dX7_tell_62 rfl ?_
    first | exact h1 (by omega) | exact h0 (by omega)
  · refine z_aload_0 dX7_tell_9 ?_
    refine z_getR (j := 25) dX7_tell_10 zf_X7_63 rfl rfl ?_
    refine z_iconst 3 dX7_tell_13 rfl ?_
    refine z_aload_0 dX7_tell_14 ?_
    refine z_getI (j := 24) dX7_tell_15 zf_X7_116 rfl rfl ?_
    have w3 : zR (σ.1 0 24) := hR.1 0 24
    refine z_imul dX7_tell_18 ?_
    refine z_iload_1 dX7_tell_19 ?_
    refine z_iast dX7_tell_20 rfl (by decide) (by omega) (by omega) (by omega) ?_
    refine z_aload_0 dX7_tell_21 ?_
    refine z_getR (j := 25) dX7_tell_22 zf_X7_63 rfl rfl ?_
    refine z_iconst 3 dX7_tell_25 rfl ?_
    refine z_aload_0 dX7_tell_26 ?_
    refine z_getI (j := 24) dX7_tell_27 zf_X7_116 rfl rfl ?_
    refine z_top (b := σ.1 0 24) zsA_F ?_
    have w4 : zR (σ.1 0 24) := hR.1 0 24
    refine z_imul dX7_tell_30 ?_
    refine z_iconst 1 dX7_tell_31 rfl ?_
    refine z_iadd dX7_tell_32 ?_
    refine z_aload_0 dX7_tell_33 ?_
    refine z_getI (j := 19) dX7_tell_34 zf_X7_119 rfl rfl ?_
    refine z_top (b := σ.1 0 19) zsA_F ?_
    have w5 : zR (σ.1 0 19) := hR.1 0 19
    refine z_iast dX7_tell_37 rfl (by decide) (by omega) (by omega) (by omega) ?_
    refine z_aload_0 dX7_tell_38 ?_
    refine z_getR (j := 25) dX7_tell_39 zf_X7_63 rfl rfl ?_
    refine z_iconst 3 dX7_tell_42 rfl ?_
    refine z_aload_0 dX7_tell_43 ?_
    refine z_getI (j := 24) dX7_tell_44 zf_X7_116 rfl rfl ?_
    refine z_top (b := σ.1 0 24) (zsA_F.trans zsA_F) ?_
    have w6 : zR (σ.1 0 24) := hR.1 0 24
    refine z_imul dX7_tell_47 ?_
    refine z_iconst 2 dX7_tell_48 rfl ?_
    refine z_iadd dX7_tell_49 ?_
    refine z_iload_2 dX7_tell_50 ?_
    refine z_iast dX7_tell_51 rfl (by decide) (by omega) (by omega) (by omega) ?_
    refine z_aload_0 dX7_tell_52 ?_
    refine z_dup dX7_tell_53 rfl ?_
    refine z_getI (j := 24) dX7_tell_54 zf_X7_116 rfl rfl ?_
    refine z_top (b := σ.1 0 24) (zsA_F.trans (zsA_F.trans zsA_F)) ?_
    have w7 : zR (σ.1 0 24) := hR.1 0 24
    refine z_iconst 1 dX7_tell_57 rfl ?_
    refine z_iadd dX7_tell_58 ?_
    refine z_putI (j := 24) dX7_tell_59 zp_X7_116 rfl rfl (by omega) ?_
    refine z_vret dX7_tell_62 rfl ?_
    first | exact h1 (by omega) | exact h0 (by omega)

set_option maxRecDepth 100000 in
theorem M_X7_keep {G : zG} {σ : zSt} {Post : Option Value → zSt → Prop} (T : Int) (hT0 : 0 ≤ T) (hT6 : T < 6) (hT : σ.1 0 10 = T + 1) (k v c p : Int) (hk : zR k) (hv : zR v) (hc : zR c) (hp : zR p) (hs0 : 0 ≤ σ.1 0 19) (hs : σ.1 0 19 < 600) (h : Post (some (.int (zI (σ.1 0 19)))) (zsF (zpt σ 14 (6 * σ.1 0 19) k v c (σ.2 7 T) (σ.2 8 T) p) 0 19 (σ.1 0 19 + 1))) : zV G shM mX7_keep 0 (zini 6 [.ref (zad G 0), .int (zI k), .int (zI v), .int (zI c), .int (zI p)]) [] σ Post := by
  refine z_rg (fun hR => ?_)
  refine z_lv (lv' := [some (.ref (zad G 0)), some (.int (zI k)), some (.int (zI v)), some (.int (zI c)), some (.int (zI p)), none]) rfl ?_
  refine z_aload_0 dX7_keep_0 ?_
  refine z_getI (j := 10) dX7_keep_1 zf_X7_90 rfl rfl ?_
  have w1 : zR (σ.1 0 10) := hR.1 0 10
  refine z_iconst 1 dX7_keep_4 rfl ?_
  refine z_isub dX7_keep_5 ?_
  refine z_top (b := T) (by omega) ?_
  refine z_istore_5 dX7_keep_6 (Nat.le_of_ble_eq_true rfl) rfl ?_
  refine z_aload_0 dX7_keep_8 ?_
  refine z_getR (j := 20) dX7_keep_9 zf_X7_54 rfl rfl ?_
  refine z_bipush 6 dX7_keep_12 (by decide +kernel) ?_
  refine z_aload_0 dX7_keep_14 ?_
  refine z_getI (j := 19) dX7_keep_15 zf_X7_119 rfl rfl ?_
  have w2 : zR (σ.1 0 19) := hR.1 0 19
  refine z_imul dX7_keep_18 ?_
  refine z_iload_1 dX7_keep_19 ?_
  refine z_iast dX7_keep_20 rfl (by decide) (by omega) (by omega) (by omega) ?_
  refine z_aload_0 dX7_keep_21 ?_
  refine z_getR (j := 20) dX7_keep_22 zf_X7_54 rfl rfl ?_
  refine z_bipush 6 dX7_keep_25 (by decide +kernel) ?_
  refine z_aload_0 dX7_keep_27 ?_
  refine z_getI (j := 19) dX7_keep_28 zf_X7_119 rfl rfl ?_
  refine z_top (b := σ.1 0 19) zsA_F ?_
  have w3 : zR (σ.1 0 19) := hR.1 0 19
  refine z_imul dX7_keep_31 ?_
  refine z_iconst 1 dX7_keep_32 rfl ?_
  refine z_iadd dX7_keep_33 ?_
  refine z_iload_2 dX7_keep_34 ?_
  refine z_iast dX7_keep_35 rfl (by decide) (by omega) (by omega) (by omega) ?_
  refine z_aload_0 dX7_keep_36 ?_
  refine z_getR (j := 20) dX7_keep_37 zf_X7_54 rfl rfl ?_
  refine z_bipush 6 dX7_keep_40 (by decide +kernel) ?_
  refine z_aload_0 dX7_keep_42 ?_
  refine z_getI (j := 19) dX7_keep_43 zf_X7_119 rfl rfl ?_
  refine z_top (b := σ.1 0 19) (zsA_F.trans zsA_F) ?_
  have w4 : zR (σ.1 0 19) := hR.1 0 19
  refine z_imul dX7_keep_46 ?_
  refine z_iconst 2 dX7_keep_47 rfl ?_
  refine z_iadd dX7_keep_48 ?_
  refine z_iload_3 dX7_keep_49 ?_
  refine z_iast dX7_keep_50 rfl (by decide) (by omega) (by omega) (by omega) ?_
  refine z_aload_0 dX7_keep_51 ?_
  refine z_getR (j := 20) dX7_keep_52 zf_X7_54 rfl rfl ?_
  refine z_bipush 6 dX7_keep_55 (by decide +kernel) ?_
  refine z_aload_0 dX7_keep_57 ?_
  refine z_getI (j := 19) dX7_keep_58 zf_X7_119 rfl rfl ?_
  refine z_top (b := σ.1 0 19) (zsA_F.trans (zsA_F.trans zsA_F)) ?_
  have w5 : zR (σ.1 0 19) := hR.1 0 19
  refine z_imul dX7_keep_61 ?_
  refine z_iconst 3 dX7_keep_62 rfl ?_
  refine z_iadd dX7_keep_63 ?_
  refine z_aload_0 dX7_keep_64 ?_
  refine z_getR (j := 11) dX7_keep_65 zf_X7_33 rfl rfl ?_
  refine z_iload_5 dX7_keep_68 ?_
  refine z_iald dX7_keep_70 rfl (by decide) (by omega) (by omega) ?_
  refine z_top (b := σ.2 7 T) ((zsA_ne1 (by omega)).trans ((zsA_ne1 (by omega)).trans (zsA_ne1 (by omega)))) ?_
  have w6 : zR (σ.2 7 T) := hR.2 7 T
  refine z_iast dX7_keep_71 rfl (by decide) (by omega) (by omega) (by omega) ?_
  refine z_aload_0 dX7_keep_72 ?_
  refine z_getR (j := 20) dX7_keep_73 zf_X7_54 rfl rfl ?_
  refine z_bipush 6 dX7_keep_76 (by decide +kernel) ?_
  refine z_aload_0 dX7_keep_78 ?_
  refine z_getI (j := 19) dX7_keep_79 zf_X7_119 rfl rfl ?_
  refine z_top (b := σ.1 0 19) (zsA_F.trans (zsA_F.trans (zsA_F.trans zsA_F))) ?_
  have w7 : zR (σ.1 0 19) := hR.1 0 19
  refine z_imul dX7_keep_82 ?_
  refine z_iconst 4 dX7_keep_83 rfl ?_
  refine z_iadd dX7_keep_84 ?_
  refine z_aload_0 dX7_keep_85 ?_
  refine z_getR (j := 12) dX7_keep_86 zf_X7_36 rfl rfl ?_
  refine z_iload_5 dX7_keep_89 ?_
  refine z_iald dX7_keep_91 rfl (by decide) (by omega) (by omega) ?_
  refine z_top (b := σ.2 8 T) ((zsA_ne1 (by omega)).trans ((zsA_ne1 (by omega)).trans ((zsA_ne1 (by omega)).trans (zsA_ne1 (by omega))))) ?_
  have w8 : zR (σ.2 8 T) := hR.2 8 T
  refine z_iast dX7_keep_92 rfl (by decide) (by omega) (by omega) (by omega) ?_
  refine z_aload_0 dX7_keep_93 ?_
  refine z_getR (j := 20) dX7_keep_94 zf_X7_54 rfl rfl ?_
  refine z_bipush 6 dX7_keep_97 (by decide +kernel) ?_
  refine z_aload_0 dX7_keep_99 ?_
  refine z_getI (j := 19) dX7_keep_100 zf_X7_119 rfl rfl ?_
  refine z_top (b := σ.1 0 19) (zsA_F.trans (zsA_F.trans (zsA_F.trans (zsA_F.trans zsA_F)))) ?_
  have w9 : zR (σ.1 0 19) := hR.1 0 19
  refine z_imul dX7_keep_103 ?_
  refine z_iconst 5 dX7_keep_104 rfl ?_
  refine z_iadd dX7_keep_105 ?_
  refine z_iload_4 dX7_keep_106 ?_
  refine z_iast dX7_keep_108 rfl (by decide) (by omega) (by omega) (by omega) ?_
  refine z_aload_0 dX7_keep_109 ?_
  refine z_dup dX7_keep_110 rfl ?_
  refine z_getI (j := 19) dX7_keep_111 zf_X7_119 rfl rfl ?_
  refine z_top (b := σ.1 0 19) (zsA_F.trans (zsA_F.trans (zsA_F.trans (zsA_F.trans (zsA_F.trans zsA_F))))) ?_
  have w10 : zR (σ.1 0 19) := hR.1 0 19
  refine z_iconst 1 dX7_keep_114 rfl ?_
  refine z_iadd dX7_keep_115 ?_
  refine z_putI (j := 19) dX7_keep_116 zp_X7_119 rfl rfl (by omega) ?_
  refine z_aload_0 dX7_keep_119 ?_
  refine z_getI (j := 19) dX7_keep_120 zf_X7_119 rfl rfl ?_
  refine z_top (b := ((σ.1 0 19) + 1)) zsF_eq ?_
  refine z_iconst 1 dX7_keep_123 rfl ?_
  refine z_isub dX7_keep_124 ?_
  refine z_iret dX7_keep_125 rfl ?_
  exact zPe h (by omega)

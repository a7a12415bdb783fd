theorem znx_lv0 {μ : zSt} (h : μ.1 0 10 = 0) : ∀ n, znx n μ = (-3, μ)
  | 0 => rfl
  | n + 1 => by
    have hs : zhl (μ.1 0 10).toNat μ = μ := by rw [h]; rfl
    exact znx_a hs (by omega)

set_option maxRecDepth 100000 in
theorem M_X6_levelWithLine {G : zG} {σ : zSt} {Post : Option Value → zSt → Prop} {N : Int} (hN : N ≤ 2000000000) (μ s : zSt) (hrel : zRel σ μ) (hI : zInv N μ) (hs : zhl (μ.1 0 10).toNat μ = s) (h1 : ∀ (c1 : zSt) (t : Nat), t < 6 → s.1 0 10 = (t : Int) + 1 → zRel c1 s → Post (some (.ref (zad G (18 + t)))) c1) (h0 : s.1 0 10 ≤ 0 → ∀ c1, zRel c1 s → Post (some .null) c1) : zV G shC mX6_levelWithLine 0 (zini 3 [.ref (zad G 0)]) [] σ Post := by
  refine z_rg (fun hR => ?_)
  refine z_lv (lv' := [some (.ref (zad G 0)), none, none]) rfl ?_
  have f6 : σ.1 0 7 = μ.1 0 10 := hrel.1.2.2.2.2.2.1
  have hle := hI.2.2.1
  subst hs
  refine z_aload_0 dX6_levelWithLine_0 ?_
  refine z_getI (j := 7) dX6_levelWithLine_1 zf_X6_95 rfl rfl ?_
  have w1 : zR (σ.1 0 7) := hR.1 0 7
  refine z_istore_1 dX6_levelWithLine_4 (Nat.le_of_ble_eq_true rfl) rfl ?_
  exact L_X6_levelWithLine (σ := σ) hN (μ.1 0 10).toNat σ hR μ hrel hI (by omega) (σ.1 0 7) (by omega) none h1 h0

set_option maxRecDepth 100000 in
theorem L_X6_next {G : zG} {σ : zSt} {Post : Option Value → zSt → Prop}  : ∀ (m : Nat) (σ : zSt) (hR : zRg σ) (μ : zSt) (hrel : zRel σ μ) (N : Int) (hI : zInv N μ) (hN : N + 2 * m ≤ 2000000000) (hto : 0 < μ.1 0 10 → μ.1 0 19 < 600) (step : Int) (hs0 : 0 ≤ step) (hm : step + m = 1000000) (y3 y4 : Option Value) (h : ∀ c1, zRel c1 (znx m μ).2 → Post (some (.int (zI (znx m μ).1))) c1), zV G shC mX6_next 13 [some (.ref (zad G 0)), some (.int (zI 0)), some (.int (zI step)), y3, y4] [] σ Post := by
  intro m
  induction m with
  | zero =>
    intro σ hR μ hrel N hI hN hto step hs0 hm y3 y4 h
    refine z_iload_2 dX6_next_13 ?_
    refine z_ldc 1000000 dX6_next_14 zk_X6_113 ?_
    refine z_icmp_ge (tgt := 68) dX6_next_16 (by decide) (by omega) ⟨by decide, by decide⟩ (fun c16 => ?_) (fun c16 => by exfalso; omega)
    refine z_bipush (-3) dX6_next_68 (by decide +kernel) ?_
    refine z_iret dX6_next_70 rfl ?_
    exact h σ hrel
  | succ m ih =>
    intro σ hR μ hrel N hI hN hto step hs0 hm y3 y4 h
    have hto0 := hI.2.2.2.1
    refine z_iload_2 dX6_next_13 ?_
    refine z_ldc 1000000 dX6_next_14 zk_X6_113 ?_
    refine z_icmp_ge (tgt := 68) dX6_next_16 (by decide) (by omega) ⟨by decide, by decide⟩ (fun c16 => by exfalso; omega) (fun c16 => ?_)
    refine z_aload_0 dX6_next_19 ?_
    refine z_callV mX6_levelWithLine [] dX6_next_20 zk_X6_levelWithLine zl_X6_114 ⟨Nat.le_of_ble_eq_true rfl, Nat.le_of_ble_eq_true rfl⟩ rfl rfl (Nat.le_of_ble_eq_true rfl) (Nat.le_of_ble_eq_true rfl) ?_
    obtain ⟨s, hs⟩ : ∃ s, zhl (μ.1 0 10).toNat μ = s := ⟨_, rfl⟩
    obtain ⟨sI, sl0, sl1, smu, sst, sto⟩ := zhl_fact hI hs
    refine M_X6_levelWithLine (by omega) μ s hrel hI hs (fun c1 t ht hT hc1 => ?_) (fun h10 c1 hc1 => ?_)
    · refine z_b1 ?_
      have hst : 0 ≤ s.2 12 t := by have := sst (by omega); rw [hT, show (t : Int) + 1 - 1 = t by omega] at this; exact this
      have hTl : (t : Int) < s.1 0 10 := by omega
      have hlv := hc1.2.2 t hTl
      obtain ⟨⟨hlf, hlb, -⟩, hlv2⟩ := hlv
      rcases hlv2 with hlv2 | ⟨-, -, hrl, hrp, hrs, hrr⟩
      · omega
      have hmm := sI.2.2.2.2.2.2.2.2.2.2.2.2.2.2.2.2.2.2.1 (t : Int)
      have h8 := (sI.2.2.2.2.2.2.2.2.2.2.2.2.2.2.2.2.2.2.2.1 (t : Int) (by omega) hTl).2.2.1
      have hcf := hc1.1
      unfold zRf at hcf
      have hto9 := sI.2.2.2.1
      have htl9 := sI.2.2.2.2.2.2.1
      have hna9 := sI.2.2.2.2.1
      have hgrv := zgive_res (σ := s) (T := (t : Int)) (by omega) (by omega)
      refine z_rg (fun hR1 => ?_)
      refine z_astore_3 dX6_next_23 (Nat.le_of_ble_eq_true rfl) rfl ?_
      refine z_aload_3 dX6_next_24 ?_
      refine z_ifnonnull (tgt := 31) dX6_next_25 (by decide) ?_
      refine z_aload_3 dX6_next_31 ?_
      refine z_callV mX1_left [] dX6_next_32 zk_X1_left zl_X6_117 ⟨Nat.le_of_ble_eq_true rfl, Nat.le_of_ble_eq_true rfl⟩ (shC_lv ht) rfl (Nat.le_of_ble_eq_true rfl) (Nat.le_of_ble_eq_true rfl) ?_
      refine M_X1_left t ht (fun i1 => ?_) (fun i1 => ?_)
      · refine z_b1 ?_
        refine z_if_le (tgt := 46) dX6_next_35 (by decide) (by omega) (fun c35 => ?_) (fun c35 => ?_)
        · refine z_aload_3 dX6_next_46 ?_
          refine z_callS mX6_dropUsedLine [.ref (zad G (18 + t))] dX6_next_47 zk_X6_dropUsedLine zl_X6_124 ⟨Nat.le_of_ble_eq_true rfl, Nat.le_of_ble_eq_true rfl⟩ (Nat.le_of_ble_eq_true rfl) (Nat.le_of_ble_eq_true rfl) ?_
          refine M_X6_drop t ht ?_
          refine z_b1 ?_
          refine z_istore_4 dX6_next_50 (Nat.le_of_ble_eq_true rfl) rfl ?_
          refine z_iload_4 dX6_next_52 ?_
          refine z_bipush (-6) dX6_next_54 (by decide +kernel) ?_
          refine z_icmp_eq (tgt := 62) dX6_next_56 (by decide) ⟨by decide, by decide⟩ ⟨by decide, by decide⟩ (fun c56 => ?_) (fun c56 => by exfalso; omega)
          refine z_iinc_2 dX6_next_62 (Nat.le_of_ble_eq_true rfl) rfl ?_
          refine z_goto (tgt := 13) dX6_next_65 (by decide) ?_
          rw [znx_b hs hT (by omega) (by omega)] at h
          exact ih (zsF c1 (18 + t) 4 0) (hR1.F (by omega)) (zsA s 12 t (-1)) (hc1.ov ht) (N + 1) (inv_A12 sI t (-1) (by omega)) (by omega) (fun q => by have e : (zsA s 12 t (-1)).1 0 19 = s.1 0 19 := rfl; omega) (step + 1) (by omega) (by omega) _ _ h
        · refine z_aload_0 dX6_next_38 ?_
          refine z_aload_3 dX6_next_39 ?_
          refine z_callV mX6_readToken [.ref (zad G (18 + t))] dX6_next_40 zk_X6_readToken zl_X6_120 ⟨Nat.le_of_ble_eq_true rfl, Nat.le_of_ble_eq_true rfl⟩ rfl rfl (Nat.le_of_ble_eq_true rfl) (Nat.le_of_ble_eq_true rfl) ?_
          refine M_X6_readToken s t ht hT hst (by omega) (by omega) (fun q => sI.2.2.2.2.2.2.2.2.2.2.2.2.2.2.1 _) sI.2.2.2.2.2.2.2.2.1 (s.2 11 t) (by omega) (by omega) rfl (by omega) hc1 (by omega) (by omega) (by omega) (by omega) (by omega) (by omega) sI.2.2.2.2.2.2.2.2.2.2.2.2.2.2.2.1 h8 (fun c2 hc2 => ?_)
          refine z_b1 ?_
          have hzR : zR (zcv (zgive s t).1) := by unfold zcv; split <;> omega
          refine z_rg (fun hR2 => ?_)
          refine z_goto (tgt := 50) dX6_next_43 (by decide) ?_
          refine z_istore_4 dX6_next_50 (Nat.le_of_ble_eq_true rfl) rfl ?_
          refine z_iload_4 dX6_next_52 ?_
          refine z_bipush (-6) dX6_next_54 (by decide +kernel) ?_
          refine z_icmp_eq (tgt := 62) dX6_next_56 (by decide) (by omega) ⟨by decide, by decide⟩ (fun c56 => ?_) (fun c56 => ?_)
          · refine z_iinc_2 dX6_next_62 (Nat.le_of_ble_eq_true rfl) rfl ?_
            refine z_goto (tgt := 13) dX6_next_65 (by decide) ?_
            have hg : (zgive s t).1 = -1 := by
              rcases Decidable.em ((zgive s t).1 = -1) with q | q
              · exact q
              · rw [zcv_ne q] at c56; omega
            rw [znx_c hs hT (by omega) (by omega) hg] at h
            have gr := (zgive_fr (σ := s) (T := (t : Int)) (by omega)).2 hg
            exact ih c2 hR2 (zgive s t).2 hc2 (N + 1 + 1) (inv_give sI t (by omega) (by omega)) (by omega) (fun q => by omega) (step + 1) (by omega) (by omega) _ _ h
          · refine z_iload_4 dX6_next_59 ?_
            refine z_iret dX6_next_61 rfl ?_
            have hg : (zgive s t).1 ≠ -1 := fun q => by rw [q] at c56; exact c56 rfl
            rw [znx_d hs hT (by omega) (by omega) hg] at h
            exact zPe (h c2 hc2) (zcv_ne hg)
      · refine z_b1 ?_
        refine z_if_le (tgt := 46) dX6_next_35 (by decide) ⟨by decide, by decide⟩ (fun c35 => ?_) (fun c35 => ?_)
        · refine z_aload_3 dX6_next_46 ?_
          refine z_callS mX6_dropUsedLine [.ref (zad G (18 + t))] dX6_next_47 zk_X6_dropUsedLine zl_X6_124 ⟨Nat.le_of_ble_eq_true rfl, Nat.le_of_ble_eq_true rfl⟩ (Nat.le_of_ble_eq_true rfl) (Nat.le_of_ble_eq_true rfl) ?_
          refine M_X6_drop t ht ?_
          refine z_b1 ?_
          refine z_istore_4 dX6_next_50 (Nat.le_of_ble_eq_true rfl) rfl ?_
          refine z_iload_4 dX6_next_52 ?_
          refine z_bipush (-6) dX6_next_54 (by decide +kernel) ?_
          refine z_icmp_eq (tgt := 62) dX6_next_56 (by decide) ⟨by decide, by decide⟩ ⟨by decide, by decide⟩ (fun c56 => ?_) (fun c56 => by exfalso; omega)
          refine z_iinc_2 dX6_next_62 (Nat.le_of_ble_eq_true rfl) rfl ?_
          refine z_goto (tgt := 13) dX6_next_65 (by decide) ?_
          rw [znx_b hs hT (by omega) (by omega)] at h
          exact ih (zsF c1 (18 + t) 4 0) (hR1.F (by omega)) (zsA s 12 t (-1)) (hc1.ov ht) (N + 1) (inv_A12 sI t (-1) (by omega)) (by omega) (fun q => by have e : (zsA s 12 t (-1)).1 0 19 = s.1 0 19 := rfl; omega) (step + 1) (by omega) (by omega) _ _ h
        · refine z_aload_0 dX6_next_38 ?_
          refine z_aload_3 dX6_next_39 ?_
          refine z_callV mX6_readToken [.ref (zad G (18 + t))] dX6_next_40 zk_X6_readToken zl_X6_120 ⟨Nat.le_of_ble_eq_true rfl, Nat.le_of_ble_eq_true rfl⟩ rfl rfl (Nat.le_of_ble_eq_true rfl) (Nat.le_of_ble_eq_true rfl) ?_
          refine M_X6_readToken s t ht hT hst (by omega) (by omega) (fun q => sI.2.2.2.2.2.2.2.2.2.2.2.2.2.2.1 _) sI.2.2.2.2.2.2.2.2.1 (s.2 11 t) (by omega) (by omega) rfl (by omega) hc1 (by omega) (by omega) (by omega) (by omega) (by omega) (by omega) sI.2.2.2.2.2.2.2.2.2.2.2.2.2.2.2.1 h8 (fun c2 hc2 => ?_)
          refine z_b1 ?_
          have hzR : zR (zcv (zgive s t).1) := by unfold zcv; split <;> omega
          refine z_rg (fun hR2 => ?_)
          refine z_goto (tgt := 50) dX6_next_43 (by decide) ?_
          refine z_istore_4 dX6_next_50 (Nat.le_of_ble_eq_true rfl) rfl ?_
          refine z_iload_4 dX6_next_52 ?_
          refine z_bipush (-6) dX6_next_54 (by decide +kernel) ?_
          refine z_icmp_eq (tgt := 62) dX6_next_56 (by decide) (by omega) ⟨by decide, by decide⟩ (fun c56 => ?_) (fun c56 => ?_)
          · refine z_iinc_2 dX6_next_62 (Nat.le_of_ble_eq_true rfl) rfl ?_
            refine z_goto (tgt := 13) dX6_next_65 (by decide) ?_
            have hg : (zgive s t).1 = -1 := by
              rcases Decidable.em ((zgive s t).1 = -1) with q | q
              · exact q
              · rw [zcv_ne q] at c56; omega
            rw [znx_c hs hT (by omega) (by omega) hg] at h
            have gr := (zgive_fr (σ := s) (T := (t : Int)) (by omega)).2 hg
            exact ih c2 hR2 (zgive s t).2 hc2 (N + 1 + 1) (inv_give sI t (by omega) (by omega)) (by omega) (fun q => by omega) (step + 1) (by omega) (by omega) _ _ h
          · refine z_iload_4 dX6_next_59 ?_
            refine z_iret dX6_next_61 rfl ?_
            have hg : (zgive s t).1 ≠ -1 := fun q => by rw [q] at c56; exact c56 rfl
            rw [znx_d hs hT (by omega) (by omega) hg] at h
            exact zPe (h c2 hc2) (zcv_ne hg)
    · refine z_b1 ?_
      refine z_astoreNN (i := 3) dX6_next_23 rfl (by simp) (Nat.le_of_ble_eq_true rfl) (zpvS (i := 2) rfl rfl) ?_
      refine z_lv (lv' := [some (.ref (zad G 0)), some (.int (zI 0)), some (.int (zI step)), some (.null), y4]) rfl ?_
      refine z_aloadNN (i := 3) dX6_next_24 rfl rfl ?_
      refine z_ifnonnullN dX6_next_25 ?_
      refine z_bipush (-3) dX6_next_28 (by decide +kernel) ?_
      refine z_iret dX6_next_30 rfl ?_
      rw [znx_a hs h10] at h
      exact h c1 hc1

set_option maxRecDepth 100000 in
theorem M_X6_next {G : zG} {σ : zSt} {Post : Option Value → zSt → Prop} {N : Int} (μ : zSt) (hrel : zRel σ μ) (hI : zInv N μ) (hN : N + 2000000 ≤ 2000000000) (h4 : 0 < μ.1 0 10 → μ.1 0 19 = 600 → ∀ c1, zRel c1 μ → Post (some (.int (zI (-4)))) c1) (h : (0 < μ.1 0 10 → μ.1 0 19 < 600) → ∀ c1, zRel c1 (znx 1000000 μ).2 → Post (some (.int (zI (znx 1000000 μ).1))) c1) : zV G shC mX6_next 0 (zini 5 [.ref (zad G 0)]) [] σ Post := by
  refine z_rg (fun hR => ?_)
  refine z_lv (lv' := [some (.ref (zad G 0)), none, none, none, none]) rfl ?_
  have hrf := hrel.1
  unfold zRf at hrf
  have hle := hI.2.2.1
  have hto0 := hI.2.2.2.1
  refine z_aload_0 dX6_next_0 ?_
  refine z_callV mX6_refusalAtOnce [] dX6_next_1 zk_X6_refusalAtOnce zl_X6_110 ⟨Nat.le_of_ble_eq_true rfl, Nat.le_of_ble_eq_true rfl⟩ rfl rfl (Nat.le_of_ble_eq_true rfl) (Nat.le_of_ble_eq_true rfl) ?_
  refine M_X6_refusal (by omega) (fun i1 => ?_) (fun i1 i2 => ?_) (fun i1 i2 => ?_)
  · refine z_b1 ?_
    refine z_istore_1 dX6_next_4 (Nat.le_of_ble_eq_true rfl) rfl ?_
    refine z_iload_1 dX6_next_5 ?_
    refine z_if_ge (tgt := 11) dX6_next_6 (by decide) ⟨by decide, by decide⟩ (fun c6 => by exfalso; omega) (fun c6 => ?_)
    refine z_iload_1 dX6_next_9 ?_
    refine z_iret dX6_next_10 rfl ?_
    have h := h (fun q => by omega)
    rw [znx_lv0 (by omega)] at h
    exact h σ hrel
  · refine z_b1 ?_
    refine z_istore_1 dX6_next_4 (Nat.le_of_ble_eq_true rfl) rfl ?_
    refine z_iload_1 dX6_next_5 ?_
    refine z_if_ge (tgt := 11) dX6_next_6 (by decide) ⟨by decide, by decide⟩ (fun c6 => by exfalso; omega) (fun c6 => ?_)
    refine z_iload_1 dX6_next_9 ?_
    refine z_iret dX6_next_10 rfl ?_
    exact h4 (by omega) (by omega) σ hrel
  · refine z_b1 ?_
    refine z_istore_1 dX6_next_4 (Nat.le_of_ble_eq_true rfl) rfl ?_
    refine z_iload_1 dX6_next_5 ?_
    refine z_if_ge (tgt := 11) dX6_next_6 (by decide) ⟨by decide, by decide⟩ (fun c6 => ?_) (fun c6 => by exfalso; omega)
    refine z_iconst 0 dX6_next_11 rfl ?_
    refine z_istore_2 dX6_next_12 (Nat.le_of_ble_eq_true rfl) rfl ?_
    exact L_X6_next (σ := σ) 1000000 σ hR μ hrel N hI (by omega) (fun q => by omega) 0 (by omega) (by omega) none none (h (fun q => by omega))

set_option maxRecDepth 100000 in
theorem M_X6_raw {G : zG} {σ : zSt} {Post : Option Value → zSt → Prop} {N : Int} (μ : zSt) (hrel : zRel σ μ) (hI : zInv N μ) (hN : N + 2000000 ≤ 2000000000) (h4 : 0 < μ.1 0 10 → μ.1 0 19 = 600 → ∀ c1, zRel c1 μ → Post (some (.int (zI (-4)))) c1) (h : (0 < μ.1 0 10 → μ.1 0 19 < 600) → ∀ c1, zRel c1 (zraw μ).2 → Post (some (.int (zI (zraw μ).1))) c1) : zV G shC mX6_raw 0 (zini 5 [.ref (zad G 0)]) [] σ Post := by
  refine z_rg (fun hR => ?_)
  refine z_lv (lv' := [some (.ref (zad G 0)), none, none, none, none]) rfl ?_
  have hrf := hrel.1
  unfold zRf at hrf
  have hle := hI.2.2.1
  have hto0 := hI.2.2.2.1
  refine z_aload_0 dX6_raw_0 ?_
  refine z_callV mX6_refusalAtOnce [] dX6_raw_1 zk_X6_refusalAtOnce zl_X6_110 ⟨Nat.le_of_ble_eq_true rfl, Nat.le_of_ble_eq_true rfl⟩ rfl rfl (Nat.le_of_ble_eq_true rfl) (Nat.le_of_ble_eq_true rfl) ?_
  refine M_X6_refusal (by omega) (fun i1 => ?_) (fun i1 i2 => ?_) (fun i1 i2 => ?_)
  · refine z_b1 ?_
    refine z_istore_1 dX6_raw_4 (Nat.le_of_ble_eq_true rfl) rfl ?_
    refine z_iload_1 dX6_raw_5 ?_
    refine z_if_ge (tgt := 11) dX6_raw_6 (by decide) ⟨by decide, by decide⟩ (fun c6 => by exfalso; omega) (fun c6 => ?_)
    refine z_iload_1 dX6_raw_9 ?_
    refine z_iret dX6_raw_10 rfl ?_
    have h := h (fun q => by omega)
    rw [zraw_a (s := μ) (by rw [show μ.1 0 10 = 0 by omega]; rfl) (by omega)] at h
    exact h σ hrel
  · refine z_b1 ?_
    refine z_istore_1 dX6_raw_4 (Nat.le_of_ble_eq_true rfl) rfl ?_
    refine z_iload_1 dX6_raw_5 ?_
    refine z_if_ge (tgt := 11) dX6_raw_6 (by decide) ⟨by decide, by decide⟩ (fun c6 => by exfalso; omega) (fun c6 => ?_)
    refine z_iload_1 dX6_raw_9 ?_
    refine z_iret dX6_raw_10 rfl ?_
    exact h4 (by omega) (by omega) σ hrel
  · refine z_b1 ?_
    refine z_istore_1 dX6_raw_4 (Nat.le_of_ble_eq_true rfl) rfl ?_
    refine z_iload_1 dX6_raw_5 ?_
    refine z_if_ge (tgt := 11) dX6_raw_6 (by decide) ⟨by decide, by decide⟩ (fun c6 => ?_) (fun c6 => by exfalso; omega)
    refine z_aload_0 dX6_raw_11 ?_
    refine z_callV mX6_levelWithLine [] dX6_raw_12 zk_X6_levelWithLine zl_X6_114 ⟨Nat.le_of_ble_eq_true rfl, Nat.le_of_ble_eq_true rfl⟩ rfl rfl (Nat.le_of_ble_eq_true rfl) (Nat.le_of_ble_eq_true rfl) ?_
    obtain ⟨s, hs⟩ : ∃ s, zhl (μ.1 0 10).toNat μ = s := ⟨_, rfl⟩
    obtain ⟨sI, sl0, sl1, smu, sst, sto⟩ := zhl_fact hI hs
    refine M_X6_levelWithLine (by omega) μ s hrel hI hs (fun c1 t ht hT hc1 => ?_) (fun h10 c1 hc1 => ?_)
    · refine z_b1 ?_
      have hst : 0 ≤ s.2 12 t := by have := sst (by omega); rw [hT, show (t : Int) + 1 - 1 = t by omega] at this; exact this
      have hTl : (t : Int) < s.1 0 10 := by omega
      have hlv := hc1.2.2 t hTl
      obtain ⟨⟨hlf, hlb, -⟩, hlv2⟩ := hlv
      rcases hlv2 with hlv2 | ⟨-, -, hrl, hrp, hrs, hrr⟩
      · omega
      have hmm := sI.2.2.2.2.2.2.2.2.2.2.2.2.2.2.2.2.2.2.1 (t : Int)
      have h8 := (sI.2.2.2.2.2.2.2.2.2.2.2.2.2.2.2.2.2.2.2.1 (t : Int) (by omega) hTl).2.2.1
      have hcf := hc1.1
      unfold zRf at hcf
      have hto9 := sI.2.2.2.1
      have htl9 := sI.2.2.2.2.2.2.1
      have hna9 := sI.2.2.2.2.1
      have hgrv := zgive_res (σ := s) (T := (t : Int)) (by omega) (by omega)
      refine z_rg (fun hR1 => ?_)
      refine z_astore_2 dX6_raw_15 (Nat.le_of_ble_eq_true rfl) rfl ?_
      refine z_aload_2 dX6_raw_16 ?_
      refine z_ifnonnull (tgt := 23) dX6_raw_17 (by decide) ?_
      refine z_aload_2 dX6_raw_23 ?_
      refine z_getI (j := 6) dX6_raw_24 zf_X6_127 (shC_lv ht) rfl ?_
      have w1 : zR (c1.1 (18 + t) 6) := hR1.1 (18 + t) 6
      refine z_top (b := (s.2 11 t)) (by omega) ?_
      refine z_istore_3 dX6_raw_27 (Nat.le_of_ble_eq_true rfl) rfl ?_
      refine z_aload_2 dX6_raw_28 ?_
      refine z_iload_3 dX6_raw_29 ?_
      refine z_callV mX1_standing [.int (zI (s.2 11 t))] dX6_raw_30 zk_X1_standing zl_X6_130 ⟨Nat.le_of_ble_eq_true rfl, Nat.le_of_ble_eq_true rfl⟩ (shC_lv ht) rfl (Nat.le_of_ble_eq_true rfl) (Nat.le_of_ble_eq_true rfl) ?_
      refine M_X1_standing t (s.2 11 t) ht (by omega) (by omega) ?_
      refine z_b1 ?_
      refine z_top (b := (zst (zmr (s.2 9) t) (s.2 10 t) (s.2 11 t))) (by rw [hrl]; exact zst_ext hrr _) ?_
      have hsv := zst_R2 (row := zmr (s.2 9) t) (fun q => sI.2.2.2.2.2.2.2.2.2.2.2.2.2.2.1 _) (s.2 10 t) (s.2 11 t)
      refine z_istore_4 dX6_raw_33 (Nat.le_of_ble_eq_true rfl) rfl ?_
      refine z_iload_4 dX6_raw_35 ?_
      refine z_if_ge (tgt := 48) dX6_raw_37 (by decide) (by omega) (fun c37 => ?_) (fun c37 => ?_)
      · refine z_aload_2 dX6_raw_48 ?_
        refine z_iload_3 dX6_raw_49 ?_
        refine z_iconst 1 dX6_raw_50 rfl ?_
        refine z_iadd dX6_raw_51 ?_
        refine z_putI (j := 6) dX6_raw_52 zp_X6_127 (shC_lv ht) rfl (by omega) ?_
        refine z_aload_0 dX6_raw_55 ?_
        refine z_getR (j := 5) dX6_raw_56 zf_X6_44 rfl rfl ?_
        refine z_iconst 0 dX6_raw_59 rfl ?_
        refine z_iload_4 dX6_raw_60 ?_
        refine z_bipush 12 dX6_raw_62 (by decide +kernel) ?_
        refine z_aload_2 dX6_raw_64 ?_
        refine z_iload_3 dX6_raw_65 ?_
        refine z_callV mX5_put [.int (zI 0), .int (zI (zst (zmr (s.2 9) t) (s.2 10 t) (s.2 11 t))), .int (zI 12), .ref (zad G (18 + t)), .int (zI (s.2 11 t))] dX6_raw_66 zk_X5_put zl_X6_136 ⟨Nat.le_of_ble_eq_true rfl, Nat.le_of_ble_eq_true rfl⟩ rfl rfl (Nat.le_of_ble_eq_true rfl) (Nat.le_of_ble_eq_true rfl) ?_
        refine M_X5_putZ 0 (zst (zmr (s.2 9) t) (s.2 10 t) (s.2 11 t)) 12 t (s.2 11 t) ht (by omega) (by omega) (by omega) (by omega) (zgeE (b := c1.1 6 1) (zsF_ne (by omega)) (by omega)) (zltE (b := c1.1 6 1) (zsF_ne (by omega)) (by omega)) (zgeE (b := c1.1 (18 + t) 2) (zsF_ne (by omega)) (by omega)) ?_
        refine z_b1 ?_
        refine z_top (b := c1.1 6 1) (zsF_ne (by omega)) ?_
        refine z_iret dX6_raw_69 rfl ?_
        have hlt : s.2 11 t < s.2 10 t := zst_pos (by omega)
        have ev : zst (zmr (s.2 9) t) (s.2 10 t) (s.2 11 t) = zmr (s.2 9) t (s.2 11 t) := zst_in hmm.1 hlt
        have h := h (fun q => by omega)
        rw [zraw_c hs hT (by omega) hlt, ← ev] at h
        have rl0 : zRel (zsF c1 (18 + t) 6 ((s.2 11 t) + 1)) (zsA s 11 t ((s.2 11 t) + 1)) := hc1.pl ht
        have rl1 : zRel (zput (zsF c1 (18 + t) 6 ((s.2 11 t) + 1)) t 0 (zst (zmr (s.2 9) t) (s.2 10 t) (s.2 11 t)) 12 (s.2 11 t)) (zkeep (zsA s 11 t ((s.2 11 t) + 1)) t 0 (zst (zmr (s.2 9) t) (s.2 10 t) (s.2 11 t)) 12 (s.2 11 t)) := rl0.put hTl
        exact zPe (h _ rl1) (by show _ = s.1 0 19; omega)
      · refine z_aload_2 dX6_raw_40 ?_
        refine z_iconst 0 dX6_raw_41 rfl ?_
        refine z_putZ (j := 4) dX6_raw_42 zp_X6_133 (shC_lv ht) rfl (by omega) ?_
        refine z_bipush (-5) dX6_raw_45 (by decide +kernel) ?_
        refine z_iret dX6_raw_47 rfl ?_
        have hlt : s.2 10 t ≤ s.2 11 t := zst_neg (row := zmr (s.2 9) t) (fun q => sI.2.2.2.2.2.2.2.2.2.2.2.2.2.2.1 _) hmm.1 (by omega)
        have h := h (fun q => by omega)
        rw [zraw_b hs hT (by omega) hlt] at h
        exact h _ (hc1.ov ht)
    · refine z_b1 ?_
      refine z_astoreNN (i := 2) dX6_raw_15 rfl (by simp) (Nat.le_of_ble_eq_true rfl) (zpvS (i := 1) rfl rfl) ?_
      refine z_lv (lv' := [some (.ref (zad G 0)), some (.int (zI 0)), some (.null), none, none]) rfl ?_
      refine z_aloadNN (i := 2) dX6_raw_16 rfl rfl ?_
      refine z_ifnonnullN dX6_raw_17 ?_
      refine z_bipush (-3) dX6_raw_20 (by decide +kernel) ?_
      refine z_iret dX6_raw_22 rfl ?_
      have h := h (fun q => by omega)
      rw [zraw_a hs h10] at h
      exact h c1 hc1

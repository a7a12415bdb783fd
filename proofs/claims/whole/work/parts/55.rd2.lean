theorem M_X4_reportZ {G : zG} {σ : zSt} {Post : Option Value → zSt → Prop} (a b c : Int) (hbe : b = σ.1 6 1) (ha : zR a) (hb : zR b) (hc : zR c) (hs0 : 0 ≤ σ.1 7 1) (hs : σ.1 7 1 < 2147483647) (h : Post none (zrep σ a c)) : zV G shC mX4_report 0 (zini 5 [.ref (zad G 7), .int (zI a), .int (zI b), .int (zI c)]) [] σ Post := by
  subst hbe
  exact M_X4_report a _ c ha hb hc hs0 hs (fun q => by unfold zrep at h; rw [if_pos q] at h; exact h) (fun q => by unfold zrep at h; rw [if_neg (Int.not_lt.mpr q)] at h; exact h)
theorem M_X5_putZ {G : zG} {σ : zSt} {Post : Option Value → zSt → Prop} (k v c : Int) (t : Nat) (p : Int) (ht : t < 6) (hk : zR k) (hv : zR v) (hc : zR c) (hp : zR p) (hs0 : 0 ≤ σ.1 6 1) (hs : σ.1 6 1 < 600) (hb0 : 0 ≤ σ.1 (18 + t) 2) (h : Post (some (.int (zI (σ.1 6 1)))) (zput σ t k v c p)) : zV G shC mX5_put 0 (zini 7 [.ref (zad G 6), .int (zI k), .int (zI v), .int (zI c), .ref (zad G (18 + t)), .int (zI p)]) [] σ Post :=
  M_X5_put k v c t p ht hk hv hc hp hs0 (by omega) hb0 (fun _ => h) (fun q => by omega)

set_option maxRecDepth 100000 in
theorem M_X6_readLineEnd {G : zG} {σ : zSt} {Post : Option Value → zSt → Prop} (t : Nat) (ht : t < 6) (p : Int) (hp : zR p) (hs0 : 0 ≤ σ.1 6 1) (hs : σ.1 6 1 < 600) (hb0 : 0 ≤ σ.1 (18 + t) 2) (h0 : σ.1 (18 + t) 7 = 0 → Post (some (.int (zI (σ.1 6 1)))) (zput (zsF σ (18 + t) 4 0) t 1 0 0 p)) (h1 : σ.1 (18 + t) 7 = 1 → Post (some (.int (zI (σ.1 6 1)))) (zput (zsF σ (18 + t) 4 0) t 0 32 10 p)) (h2 : σ.1 (18 + t) 7 ≠ 0 → σ.1 (18 + t) 7 ≠ 1 → Post (some (.int (zI (-6)))) (zsF σ (18 + t) 4 0)) : zV G shC mX6_readLineEnd 0 (zini 3 [.ref (zad G 0), .ref (zad G (18 + t)), .int (zI p)]) [] σ Post := by
  refine z_rg (fun hR => ?_)
  refine z_lv (lv' := [some (.ref (zad G 0)), some (.ref (zad G (18 + t))), some (.int (zI p))]) rfl ?_
  refine z_aload_1 dX6_readLineEnd_0 ?_
  refine z_iconst 0 dX6_readLineEnd_1 rfl ?_
  refine z_putZ (j := 4) dX6_readLineEnd_2 zp_X6_133 (shC_lv ht) rfl (by omega) ?_
  refine z_aload_1 dX6_readLineEnd_5 ?_
  refine z_getI (j := 7) dX6_readLineEnd_6 zf_X6_161 (shC_lv ht) rfl ?_
  refine z_top (b := σ.1 (18 + t) 7) (zsF_ne (by omega)) ?_
  have w1 : zR (σ.1 (18 + t) 7) := hR.1 (18 + t) 7
  refine z_if_ne (tgt := 25) dX6_readLineEnd_9 (by decide) (by omega) (fun c9 => ?_) (fun c9 => ?_)
  · refine z_aload_1 dX6_readLineEnd_25 ?_
    refine z_getI (j := 7) dX6_readLineEnd_26 zf_X6_161 (shC_lv ht) rfl ?_
    refine z_top (b := σ.1 (18 + t) 7) (zsF_ne (by omega)) ?_
    have w2 : zR (σ.1 (18 + t) 7) := hR.1 (18 + t) 7
    refine z_iconst 1 dX6_readLineEnd_29 rfl ?_
    refine z_icmp_ne (tgt := 48) dX6_readLineEnd_30 (by decide) (by omega) ⟨by decide, by decide⟩ (fun c30 => ?_) (fun c30 => ?_)
    · refine z_bipush (-6) dX6_readLineEnd_48 (by decide +kernel) ?_
      refine z_iret dX6_readLineEnd_50 rfl ?_
      exact h2 (by omega) (by omega)
    · refine z_aload_0 dX6_readLineEnd_33 ?_
      refine z_getR (j := 5) dX6_readLineEnd_34 zf_X6_44 rfl rfl ?_
      refine z_iconst 0 dX6_readLineEnd_37 rfl ?_
      refine z_bipush 32 dX6_readLineEnd_38 (by decide +kernel) ?_
      refine z_bipush 10 dX6_readLineEnd_40 (by decide +kernel) ?_
      refine z_aload_1 dX6_readLineEnd_42 ?_
      refine z_iload_2 dX6_readLineEnd_43 ?_
      refine z_callV mX5_put [.int (zI 0), .int (zI 32), .int (zI 10), .ref (zad G (18 + t)), .int (zI p)] dX6_readLineEnd_44 zk_X5_put zl_X6_136 ⟨Nat.le_of_ble_eq_true rfl, Nat.le_of_ble_eq_true rfl⟩ rfl rfl (Nat.le_of_ble_eq_true rfl) (Nat.le_of_ble_eq_true rfl) ?_
      refine M_X5_putZ 0 32 10 t p ht (by omega) (by omega) (by omega) (by omega) (zgeE (b := σ.1 6 1) (zsF_ne (by omega)) (by omega)) (zltE (b := σ.1 6 1) (zsF_ne (by omega)) (by omega)) (zgeE (b := σ.1 (18 + t) 2) (zsF_ne (by omega)) (by omega)) ?_
      refine z_b1 ?_
      refine z_top (b := σ.1 6 1) (zsF_ne (by omega)) ?_
      refine z_iret dX6_readLineEnd_47 rfl ?_
      first | exact h0 (by omega) | exact h1 (by omega)
  · refine z_aload_0 dX6_readLineEnd_12 ?_
    refine z_getR (j := 5) dX6_readLineEnd_13 zf_X6_44 rfl rfl ?_
    refine z_iconst 1 dX6_readLineEnd_16 rfl ?_
    refine z_iconst 0 dX6_readLineEnd_17 rfl ?_
    refine z_iconst 0 dX6_readLineEnd_18 rfl ?_
    refine z_aload_1 dX6_readLineEnd_19 ?_
    refine z_iload_2 dX6_readLineEnd_20 ?_
    refine z_callV mX5_put [.int (zI 1), .int (zI 0), .int (zI 0), .ref (zad G (18 + t)), .int (zI p)] dX6_readLineEnd_21 zk_X5_put zl_X6_136 ⟨Nat.le_of_ble_eq_true rfl, Nat.le_of_ble_eq_true rfl⟩ rfl rfl (Nat.le_of_ble_eq_true rfl) (Nat.le_of_ble_eq_true rfl) ?_
    refine M_X5_putZ 1 0 0 t p ht (by omega) (by omega) (by omega) (by omega) (zgeE (b := σ.1 6 1) (zsF_ne (by omega)) (by omega)) (zltE (b := σ.1 6 1) (zsF_ne (by omega)) (by omega)) (zgeE (b := σ.1 (18 + t) 2) (zsF_ne (by omega)) (by omega)) ?_
    refine z_b1 ?_
    refine z_top (b := σ.1 6 1) (zsF_ne (by omega)) ?_
    refine z_iret dX6_readLineEnd_24 rfl ?_
    first | exact h0 (by omega) | exact h1 (by omega)

set_option maxRecDepth 100000 in
theorem M_X6_readBlank {G : zG} {σ : zSt} {Post : Option Value → zSt → Prop} (t : Nat) (ht : t < 6) (p : Int) (hp : zR p) (hs0 : 0 ≤ σ.1 6 1) (hs : σ.1 6 1 < 600) (hb0 : 0 ≤ σ.1 (18 + t) 2) (h0 : σ.1 (18 + t) 7 ≠ 1 → Post (some (.int (zI (-6)))) σ) (h1 : σ.1 (18 + t) 7 = 1 → Post (some (.int (zI (σ.1 6 1)))) (zput (zsF σ (18 + t) 7 2) t 0 32 10 p)) : zV G shC mX6_readBlank 0 (zini 3 [.ref (zad G 0), .ref (zad G (18 + t)), .int (zI p)]) [] σ Post := by
  refine z_rg (fun hR => ?_)
  refine z_lv (lv' := [some (.ref (zad G 0)), some (.ref (zad G (18 + t))), some (.int (zI p))]) rfl ?_
  refine z_aload_1 dX6_readBlank_0 ?_
  refine z_getI (j := 7) dX6_readBlank_1 zf_X6_161 (shC_lv ht) rfl ?_
  have w1 : zR (σ.1 (18 + t) 7) := hR.1 (18 + t) 7
  refine z_iconst 1 dX6_readBlank_4 rfl ?_
  refine z_icmp_eq (tgt := 11) dX6_readBlank_5 (by decide) (by omega) ⟨by decide, by decide⟩ (fun c5 => ?_) (fun c5 => ?_)
  · refine z_aload_1 dX6_readBlank_11 ?_
    refine z_iconst 2 dX6_readBlank_12 rfl ?_
    refine z_putI (j := 7) dX6_readBlank_13 zp_X6_161 (shC_lv ht) rfl ⟨by decide, by decide⟩ ?_
    refine z_aload_0 dX6_readBlank_16 ?_
    refine z_getR (j := 5) dX6_readBlank_17 zf_X6_44 rfl rfl ?_
    refine z_iconst 0 dX6_readBlank_20 rfl ?_
    refine z_bipush 32 dX6_readBlank_21 (by decide +kernel) ?_
    refine z_bipush 10 dX6_readBlank_23 (by decide +kernel) ?_
    refine z_aload_1 dX6_readBlank_25 ?_
    refine z_iload_2 dX6_readBlank_26 ?_
    refine z_callV mX5_put [.int (zI 0), .int (zI 32), .int (zI 10), .ref (zad G (18 + t)), .int (zI p)] dX6_readBlank_27 zk_X5_put zl_X6_136 ⟨Nat.le_of_ble_eq_true rfl, Nat.le_of_ble_eq_true rfl⟩ rfl rfl (Nat.le_of_ble_eq_true rfl) (Nat.le_of_ble_eq_true rfl) ?_
    refine M_X5_putZ 0 32 10 t p ht (by omega) (by omega) (by omega) (by omega) (zgeE (b := σ.1 6 1) (zsF_ne (by omega)) (by omega)) (zltE (b := σ.1 6 1) (zsF_ne (by omega)) (by omega)) (zgeE (b := σ.1 (18 + t) 2) (zsF_ne (by omega)) (by omega)) ?_
    refine z_b1 ?_
    refine z_top (b := σ.1 6 1) (zsF_ne (by omega)) ?_
    refine z_iret dX6_readBlank_30 rfl ?_
    exact h1 (by omega)
  · refine z_bipush (-6) dX6_readBlank_8 (by decide +kernel) ?_
    refine z_iret dX6_readBlank_10 rfl ?_
    exact h0 (by omega)

set_option maxRecDepth 100000 in
theorem M_X6_readActive {G : zG} {σ : zSt} {Post : Option Value → zSt → Prop} (s : Int) (h7 : 0 ≤ σ.1 7 1) (h8 : σ.1 7 1 < 2147483647) (hq0 : 0 ≤ s) (hq : s < 256) (t : Nat) (ht : t < 6) (p : Int) (hp : zR p) (hs0 : 0 ≤ σ.1 6 1) (hs : σ.1 6 1 < 600) (hb0 : 0 ≤ σ.1 (18 + t) 2) (h0 : σ.2 2 s ≠ 0 → Post (some (.int (zI (σ.1 6 1)))) (zput (zsF σ (18 + t) 7 1) t 2 s 13 p)) (h1 : σ.2 2 s = 0 → Post (some (.int (zI (σ.1 6 1)))) (zput (zrep (zsF σ (18 + t) 7 1) 2 s) t 2 s 13 p)) : zV G shC mX6_readActive 0 (zini 4 [.ref (zad G 0), .ref (zad G (18 + t)), .int (zI s), .int (zI p)]) [] σ Post := by
  refine z_rg (fun hR => ?_)
  refine z_lv (lv' := [some (.ref (zad G 0)), some (.ref (zad G (18 + t))), some (.int (zI s)), some (.int (zI p))]) rfl ?_
  refine z_aload_1 dX6_readActive_0 ?_
  refine z_iconst 1 dX6_readActive_1 rfl ?_
  refine z_putI (j := 7) dX6_readActive_2 zp_X6_161 (shC_lv ht) rfl ⟨by decide, by decide⟩ ?_
  refine z_iload_2 dX6_readActive_5 ?_
  refine z_callS mX6_isSign [.int (zI s)] dX6_readActive_6 zk_X6_isSign zl_X6_59 ⟨Nat.le_of_ble_eq_true rfl, Nat.le_of_ble_eq_true rfl⟩ (Nat.le_of_ble_eq_true rfl) (Nat.le_of_ble_eq_true rfl) ?_
  refine M_X6_isSign s (by omega) (fun i1 i2 => ?_) (fun i1 => by exfalso; omega)
  refine z_b1 ?_
  refine z_if_eq (tgt := 37) dX6_readActive_9 (by decide) ⟨by decide, by decide⟩ (fun c9 => by exfalso; omega) (fun c9 => ?_)
  refine z_aload_0 dX6_readActive_12 ?_
  refine z_getR (j := 1) dX6_readActive_13 zf_X6_16 rfl rfl ?_
  refine z_iload_2 dX6_readActive_16 ?_
  refine z_zald dX6_readActive_17 rfl (by decide) (by omega) (by omega) ?_
  refine z_top (b := σ.2 2 s) zsF_A ?_
  have w1 : zR (σ.2 2 s) := hR.2 2 s
  refine z_if_ne (tgt := 37) dX6_readActive_18 (by decide) (by omega) (fun c18 => ?_) (fun c18 => ?_)
  · refine z_aload_0 dX6_readActive_37 ?_
    refine z_getR (j := 5) dX6_readActive_38 zf_X6_44 rfl rfl ?_
    refine z_iconst 2 dX6_readActive_41 rfl ?_
    refine z_iload_2 dX6_readActive_42 ?_
    refine z_bipush 13 dX6_readActive_43 (by decide +kernel) ?_
    refine z_aload_1 dX6_readActive_45 ?_
    refine z_iload_3 dX6_readActive_46 ?_
    refine z_callV mX5_put [.int (zI 2), .int (zI s), .int (zI 13), .ref (zad G (18 + t)), .int (zI p)] dX6_readActive_47 zk_X5_put zl_X6_136 ⟨Nat.le_of_ble_eq_true rfl, Nat.le_of_ble_eq_true rfl⟩ rfl rfl (Nat.le_of_ble_eq_true rfl) (Nat.le_of_ble_eq_true rfl) ?_
    refine M_X5_putZ 2 s 13 t p ht (by omega) (by omega) (by omega) (by omega) (zgeE (b := σ.1 6 1) (zsF_ne (by omega)) (by omega)) (zltE (b := σ.1 6 1) (zsF_ne (by omega)) (by omega)) (zgeE (b := σ.1 (18 + t) 2) (zsF_ne (by omega)) (by omega)) ?_
    refine z_b1 ?_
    refine z_top (b := σ.1 6 1) (zsF_ne (by omega)) ?_
    refine z_iret dX6_readActive_50 rfl ?_
    first | exact h1 (by omega) | exact h0 (by omega)
  · refine z_aload_0 dX6_readActive_21 ?_
    refine z_getR (j := 6) dX6_readActive_22 zf_X6_51 rfl rfl ?_
    refine z_iconst 2 dX6_readActive_25 rfl ?_
    refine z_aload_0 dX6_readActive_26 ?_
    refine z_getR (j := 5) dX6_readActive_27 zf_X6_44 rfl rfl ?_
    refine z_getI (j := 1) dX6_readActive_30 zf_X6_164 rfl rfl ?_
    refine z_top (b := σ.1 6 1) (zsF_ne (by omega)) ?_
    have w2 : zR (σ.1 6 1) := hR.1 6 1
    refine z_iload_2 dX6_readActive_33 ?_
    refine z_callV mX4_report [.int (zI 2), .int (zI (σ.1 6 1)), .int (zI s)] dX6_readActive_34 zk_X4_report zl_X6_224 ⟨Nat.le_of_ble_eq_true rfl, Nat.le_of_ble_eq_true rfl⟩ rfl rfl (Nat.le_of_ble_eq_true rfl) (Nat.le_of_ble_eq_true rfl) ?_
    refine M_X4_reportZ 2 (σ.1 6 1) s ((zsF_ne (by omega))).symm (by omega) (by omega) (by omega) (zgeE (b := σ.1 7 1) (zsF_ne (by omega)) (by omega)) (zltE (b := σ.1 7 1) (zsF_ne (by omega)) (by omega)) ?_
    refine z_b0 ?_
    refine z_aload_0 dX6_readActive_37 ?_
    refine z_getR (j := 5) dX6_readActive_38 zf_X6_44 rfl rfl ?_
    refine z_iconst 2 dX6_readActive_41 rfl ?_
    refine z_iload_2 dX6_readActive_42 ?_
    refine z_bipush 13 dX6_readActive_43 (by decide +kernel) ?_
    refine z_aload_1 dX6_readActive_45 ?_
    refine z_iload_3 dX6_readActive_46 ?_
    refine z_callV mX5_put [.int (zI 2), .int (zI s), .int (zI 13), .ref (zad G (18 + t)), .int (zI p)] dX6_readActive_47 zk_X5_put zl_X6_136 ⟨Nat.le_of_ble_eq_true rfl, Nat.le_of_ble_eq_true rfl⟩ rfl rfl (Nat.le_of_ble_eq_true rfl) (Nat.le_of_ble_eq_true rfl) ?_
    refine M_X5_putZ 2 s 13 t p ht (by omega) (by omega) (by omega) (by omega) (zgeE (b := σ.1 6 1) ((zrep_F (by omega)).trans (zsF_ne (by omega))) (by omega)) (zltE (b := σ.1 6 1) ((zrep_F (by omega)).trans (zsF_ne (by omega))) (by omega)) (zgeE (b := σ.1 (18 + t) 2) ((zrep_F (by omega)).trans (zsF_ne (by omega))) (by omega)) ?_
    refine z_b1 ?_
    refine z_top (b := σ.1 6 1) ((zrep_F (by omega)).trans (zsF_ne (by omega))) ?_
    refine z_iret dX6_readActive_50 rfl ?_
    first | exact h1 (by omega) | exact h0 (by omega)

/-- the draft holds these signs -/
def zdr (c : zSt) (D : List Int) : Prop := c.1 5 4 = (D.length : Int) ∧ ∀ k : Nat, k < 40 → k < D.length → c.2 15 (k : Int) = D.getD k 0
theorem zdr_add {c : zSt} {D : List Int} {s : Int} (h : zdr c D) (hd : c.1 5 4 < 40) : zdr (zsF (zsA c 15 (c.1 5 4) s) 5 4 (c.1 5 4 + 1)) (D ++ [s]) := by
  obtain ⟨h1, h2⟩ := h
  refine ⟨zsF_eq.trans (by rw [h1, List.length_append]; simp), fun k k0 k1 => ?_⟩
  rw [List.length_append] at k1
  show (zsA c 15 (c.1 5 4) s).2 15 (k : Int) = _
  rw [h1]
  by_cases e : k = D.length
  · subst e
    rw [zsA_eq, List.getD_eq_getElem?_getD, List.getElem?_append_right (Nat.le_refl _), Nat.sub_self]; rfl
  · have hk : k < D.length := by simp at k1; omega
    rw [zsA_ne1 (by omega), h2 k k0 hk, List.getD_eq_getElem?_getD, List.getD_eq_getElem?_getD, List.getElem?_append_left hk]
theorem zdr_add2 {c : zSt} {D : List Int} {s : Int} (h : zdr c D) (hd : 40 ≤ c.1 5 4) : zdr (zsF c 5 4 (c.1 5 4 + 1)) (D ++ [s]) := by
  obtain ⟨h1, h2⟩ := h
  refine ⟨zsF_eq.trans (by rw [h1, List.length_append]; simp), fun k k0 k1 => ?_⟩
  have hk : k < D.length := by omega
  show c.2 15 (k : Int) = _
  rw [h2 k k0 hk, List.getD_eq_getElem?_getD, List.getD_eq_getElem?_getD, List.getElem?_append_left hk]
theorem zdr_F {c : zSt} {D : List Int} {i j : Nat} {x : Int} (h : zdr c D) (hj : ¬ (i = 5 ∧ j = 4)) : zdr (zsF c i j x) D := ⟨(zsF_ne (by omega)).trans h.1, h.2⟩
theorem zdr_0 {c : zSt} : zdr (zsF c 5 4 0) [] := ⟨zsF_eq, fun k _ q => by simp at q⟩
theorem zdr_rep {c : zSt} {D : List Int} {a s : Int} (h : zdr c D) : zdr (zrep c a s) D := ⟨(zrep_F (by omega)).trans h.1, fun k q0 q1 => (congrFun (zrep_A (by omega)) _).trans (h.2 k q0 q1)⟩

theorem zgr_R {r : Int × Int} {p len : Int} (h : (p < len → 0 ≤ r.1 ∧ r.1 ≤ 255 ∧ p + 1 ≤ r.2 ∧ r.2 ≤ len) ∧ (len ≤ p → r = (-1, p + 1))) (h0 : 0 ≤ p) (h1 : len ≤ 121) (h2 : p ≤ 1000 := by omega) : (-1 ≤ r.1 ∧ r.1 ≤ 255) ∧ p + 1 ≤ r.2 ∧ r.2 ≤ 1001 := by
  rcases Decidable.em (p < len) with q | q
  · have := h.1 q; omega
  · rw [h.2 (by omega)]; dsimp only; omega
theorem zgr_in {r : Int × Int} {p len : Int} (h : (p < len → 0 ≤ r.1 ∧ r.1 ≤ 255 ∧ p + 1 ≤ r.2 ∧ r.2 ≤ len) ∧ (len ≤ p → r = (-1, p + 1))) (h0 : 0 ≤ r.1) : p < len := by
  rcases Decidable.em (p < len) with q | q
  · exact q
  · have := h.2 (by omega); rw [this] at h0; dsimp only at h0; omega

theorem zat_R3 {cats : Int → Int} (h : ∀ q, 0 ≤ cats q ∧ cats q ≤ 15) (s : Int) : -1 ≤ zat cats s ∧ zat cats s ≤ 15 ∧ (0 ≤ zat cats s → 0 ≤ s ∧ s < 256 ∧ zat cats s = cats s) := by
  unfold zat; split
  next e => have := h s; exact ⟨by omega, this.2, fun _ => ⟨e.1, e.2, rfl⟩⟩
  next => exact ⟨by omega, by omega, fun q => absurd q (by decide)⟩
theorem N_X3_growDraft {G : zG} {σ : zSt} {Post : Option Value → zSt → Prop} (c d : Int) (hd : σ.1 5 4 = d) (hc : zR c) (hd0 : 0 ≤ d) (hd1 : d ≤ 1000) (h1 : d < 40 → Post none (zsF (zsA σ 15 d c) 5 4 (d + 1))) (h0 : 40 ≤ d → Post none (zsF σ 5 4 (d + 1))) : zV G shC mX3_growDraft 0 (zini 3 [.ref (zad G 5), .int (zI c)]) [] σ Post := by
  subst hd
  exact M_X3_growDraft c hc hd0 hd1 h1 h0

set_option maxRecDepth 100000 in
theorem L_X6_draftLetters {G : zG} {σ : zSt} {Post : Option Value → zSt → Prop} (μ : zSt) (t : Nat) (ht : t < 6) (hT : μ.1 0 10 = (t : Int) + 1) (hst : 0 ≤ μ.2 12 t) (hl0 : 0 ≤ μ.2 10 t) (hl : μ.2 10 t ≤ 121) (hrw : ∀ q, 0 ≤ zmr (μ.2 9) t q ∧ zmr (μ.2 9) t q ≤ 255) (hcr : ∀ q, 0 ≤ μ.2 1 q ∧ μ.2 1 q ≤ 15) : ∀ (m : Nat) (σ : zSt) (hR : zRg σ) (p : Int) (D : List Int) (L : Int) (hL : L = (m : Int)) (hp0 : 0 ≤ p) (hp1 : p ≤ μ.2 10 t) (hpm : μ.2 10 t - p ≤ m) (hDm : D.length + m ≤ 300) (hrel : zRel σ (zsA μ 11 t p)) (hd : zdr σ D) (h : ∀ c1, zRel c1 (zsA μ 11 t (zlets (μ.2 1) (zmr (μ.2 9) t) (μ.2 10 t) m p).2) → zdr c1 (D ++ (zlets (μ.2 1) (zmr (μ.2 9) t) (μ.2 10 t) m p).1) → Post none c1), zV G shC mX6_draftLetters 5 [some (.ref (zad G 0)), some (.ref (zad G (18 + t))), some (.int (zI L))] [] σ Post := by
  intro m
  induction m with
  | zero =>
    intro σ hR p D L hL hp0 hp1 hpm hDm hrel hd h
    refine z_iload_2 dX6_draftLetters_5 ?_
    refine z_if_le (tgt := 63) dX6_draftLetters_6 (by decide) (by omega) (fun c6 => ?_) (fun c6 => by exfalso; omega)
    refine z_vret dX6_draftLetters_63 rfl ?_
    have hzl : zlets (μ.2 1) (zmr (μ.2 9) t) (μ.2 10 t) 0 p = ([], p) := rfl
    rw [hzl, List.append_nil] at h
    exact h σ hrel hd
  | succ m ih =>
    intro σ hR p D L hL hp0 hp1 hpm hDm hrel hd h
    obtain ⟨r, hr⟩ : ∃ r, zgr (μ.2 1) (zmr (μ.2 9) t) (μ.2 10 t) p = r := ⟨_, rfl⟩
    have hr' := hr
    rw [zgr] at hr'
    have hrg := zgr_rg hr hrw hp0
    have hrgR := zgr_R hrg hp0 hl
    obtain ⟨hrgR1, hrgR2⟩ := hrgR
    have hrgI := zgr_in hrg
    have hrc : σ.2 8 = μ.2 1 := hrel.2.1.1
    have hlv := hrel.2.2 t (by show (t : Int) < μ.1 0 10; omega)
    have hlv2 := hlv.2
    rcases hlv2 with hlv2 | ⟨-, -, hrl, hrp, -, hrr⟩
    · exact absurd hlv2.1 (by show ¬ μ.2 12 t < 0; omega)
    have hrl : σ.1 (18 + t) 5 = μ.2 10 t := hrl
    have hrp : σ.1 (18 + t) 6 = p := hrp.trans zsA_eq
    have hd1 := hd.1
    refine z_iload_2 dX6_draftLetters_5 ?_
    refine z_if_le (tgt := 63) dX6_draftLetters_6 (by decide) (by omega) (fun c6 => by exfalso; omega) (fun c6 => ?_)
    refine z_aload_1 dX6_draftLetters_9 ?_
    refine z_aload_1 dX6_draftLetters_10 ?_
    refine z_getI (j := 6) dX6_draftLetters_11 zf_X6_127 (shC_lv ht) rfl ?_
    have w1 : zR (σ.1 (18 + t) 6) := hR.1 (18 + t) 6
    refine z_top (b := p) (by omega) ?_
    refine z_aload_0 dX6_draftLetters_14 ?_
    refine z_getR (j := 0) dX6_draftLetters_15 zf_X6_10 rfl rfl ?_
    refine z_callV mX1_look [.int (zI p), .ref (zad G 1)] dX6_draftLetters_18 zk_X1_look zl_X6_201 ⟨Nat.le_of_ble_eq_true rfl, Nat.le_of_ble_eq_true rfl⟩ (shC_lv ht) rfl (Nat.le_of_ble_eq_true rfl) (Nat.le_of_ble_eq_true rfl) ?_
    refine N_X1_look μ t ht p r hr hrc hrl hrr hl0 hl (by omega) (by omega) ?_
    refine z_b0 ?_
    refine z_aload_0 dX6_draftLetters_21 ?_
    refine z_getR (j := 0) dX6_draftLetters_22 zf_X6_10 rfl rfl ?_
    refine z_aload_1 dX6_draftLetters_25 ?_
    refine z_getI (j := 8) dX6_draftLetters_26 zf_X6_205 (shC_lv ht) rfl ?_
    refine z_top (b := r.1) ((zsF_ne (by omega)).trans zsF_eq) ?_
    refine z_callV mX0_at [.int (zI r.1)] dX6_draftLetters_29 zk_X0_at zl_X6_158 ⟨Nat.le_of_ble_eq_true rfl, Nat.le_of_ble_eq_true rfl⟩ rfl rfl (Nat.le_of_ble_eq_true rfl) (Nat.le_of_ble_eq_true rfl) ?_
    refine M_X0_at r.1 (by omega) ?_
    refine z_b1 ?_
    refine z_top (b := (zat (μ.2 1) r.1)) (congrArg (fun q => zat q r.1) hrc) ?_
    have hza := zat_R3 hcr r.1
    refine z_bipush 11 dX6_draftLetters_32 (by decide +kernel) ?_
    refine z_icmp_eq (tgt := 38) dX6_draftLetters_34 (by decide) (by omega) ⟨by decide, by decide⟩ (fun c34 => ?_) (fun c34 => ?_)
    · refine z_aload_0 dX6_draftLetters_38 ?_
      refine z_getR (j := 4) dX6_draftLetters_39 zf_X6_37 rfl rfl ?_
      refine z_aload_1 dX6_draftLetters_42 ?_
      refine z_getI (j := 8) dX6_draftLetters_43 zf_X6_205 (shC_lv ht) rfl ?_
      refine z_top (b := r.1) ((zsF_ne (by omega)).trans zsF_eq) ?_
      refine z_callV mX3_growDraft [.int (zI r.1)] dX6_draftLetters_46 zk_X3_growDraft zl_X6_235 ⟨Nat.le_of_ble_eq_true rfl, Nat.le_of_ble_eq_true rfl⟩ rfl rfl (Nat.le_of_ble_eq_true rfl) (Nat.le_of_ble_eq_true rfl) ?_
      refine N_X3_growDraft r.1 (σ.1 5 4) ((zsF_ne (by omega)).trans (zsF_ne (by omega))) (by omega) (by omega) (by omega) (fun i1 => ?_) (fun i1 => ?_)
      · refine z_b0 ?_
        refine z_aload_1 dX6_draftLetters_49 ?_
        refine z_aload_1 dX6_draftLetters_50 ?_
        refine z_getI (j := 9) dX6_draftLetters_51 zf_X6_207 (shC_lv ht) rfl ?_
        refine z_top (b := r.2) ((zsF_ne (by omega)).trans (zsA_F.trans zsF_eq)) ?_
        refine z_putI (j := 6) dX6_draftLetters_54 zp_X6_127 (shC_lv ht) rfl (by omega) ?_
        refine z_iinc_2 dX6_draftLetters_57 (Nat.le_of_ble_eq_true rfl) rfl ?_
        refine z_goto (tgt := 5) dX6_draftLetters_60 (by decide) ?_
        have hq := hrgI (by omega)
        have hrgq := hrg.1 hq
        have hz0 : 0 ≤ zst (zmr (μ.2 9) t) (μ.2 10 t) p := by rw [zst_in hp0 hq]; exact (hrw p).1
        have hzl := zlets_le (cats := μ.2 1) (row := zmr (μ.2 9) t) (len := μ.2 10 t) (p := p) (m := m) hz0 (by rw [hr']; omega)
        rw [hr'] at hzl
        rw [hzl] at h
        refine z_rg (fun hR9 => ?_)
        have hdq := zdr_add (s := r.1) (zdr_F (zdr_F hd (by omega)) (by omega)) (show (zsF (zsF σ (18 + t) 8 r.1) (18 + t) 9 r.2).1 5 4 < 40 by rw [((zsF_ne (by omega)).trans (zsF_ne (by omega)))]; omega)
        have e54 : (zsF (zsF σ (18 + t) 8 r.1) (18 + t) 9 r.2).1 5 4 = σ.1 5 4 := ((zsF_ne (by omega)).trans (zsF_ne (by omega)))
        rw [e54] at hdq
        have hrq : zRel (zsF (zsF (zsA (zsF (zsF σ (18 + t) 8 r.1) (18 + t) 9 r.2) 15 (σ.1 5 4) r.1) 5 4 (σ.1 5 4 + 1)) (18 + t) 6 r.2) (zsA μ 11 t r.2) := by
          have hr8 : zRel (zsF (zsA (zsF (zsF σ (18 + t) 8 r.1) (18 + t) 9 r.2) 15 (σ.1 5 4) r.1) 5 4 (σ.1 5 4 + 1)) (zsA μ 11 t p) := (zRel.jF (by unfold zCJ; omega) (zRel.jA (zRel.jF (by unfold zCJ; omega) (zRel.jF (by unfold zCJ; omega) hrel))))
          have := hr8.pl (x := r.2) ht
          rw [zsA_same] at this
          exact this
        refine ih (zsF (zsF (zsA (zsF (zsF σ (18 + t) 8 r.1) (18 + t) 9 r.2) 15 (σ.1 5 4) r.1) 5 4 (σ.1 5 4 + 1)) (18 + t) 6 r.2) hR9 r.2 (D ++ [r.1]) (L + (-1)) (by omega) (by omega) (by omega) (by omega) (by rw [List.length_append]; simp; omega) hrq (zdr_F hdq (by omega)) (fun c1 q1 q2 => h c1 q1 ?_)
        rw [List.append_assoc] at q2
        exact q2
      · refine z_b0 ?_
        refine z_aload_1 dX6_draftLetters_49 ?_
        refine z_aload_1 dX6_draftLetters_50 ?_
        refine z_getI (j := 9) dX6_draftLetters_51 zf_X6_207 (shC_lv ht) rfl ?_
        refine z_top (b := r.2) ((zsF_ne (by omega)).trans zsF_eq) ?_
        refine z_putI (j := 6) dX6_draftLetters_54 zp_X6_127 (shC_lv ht) rfl (by omega) ?_
        refine z_iinc_2 dX6_draftLetters_57 (Nat.le_of_ble_eq_true rfl) rfl ?_
        refine z_goto (tgt := 5) dX6_draftLetters_60 (by decide) ?_
        have hq := hrgI (by omega)
        have hrgq := hrg.1 hq
        have hz0 : 0 ≤ zst (zmr (μ.2 9) t) (μ.2 10 t) p := by rw [zst_in hp0 hq]; exact (hrw p).1
        have hzl := zlets_le (cats := μ.2 1) (row := zmr (μ.2 9) t) (len := μ.2 10 t) (p := p) (m := m) hz0 (by rw [hr']; omega)
        rw [hr'] at hzl
        rw [hzl] at h
        refine z_rg (fun hR9 => ?_)
        have hdq := zdr_add2 (s := r.1) (zdr_F (zdr_F hd (by omega)) (by omega)) (show 40 ≤ (zsF (zsF σ (18 + t) 8 r.1) (18 + t) 9 r.2).1 5 4 by rw [((zsF_ne (by omega)).trans (zsF_ne (by omega)))]; omega)
        have e54 : (zsF (zsF σ (18 + t) 8 r.1) (18 + t) 9 r.2).1 5 4 = σ.1 5 4 := ((zsF_ne (by omega)).trans (zsF_ne (by omega)))
        rw [e54] at hdq
        have hrq : zRel (zsF (zsF (zsF (zsF σ (18 + t) 8 r.1) (18 + t) 9 r.2) 5 4 (σ.1 5 4 + 1)) (18 + t) 6 r.2) (zsA μ 11 t r.2) := by
          have hr8 : zRel (zsF (zsF (zsF σ (18 + t) 8 r.1) (18 + t) 9 r.2) 5 4 (σ.1 5 4 + 1)) (zsA μ 11 t p) := (zRel.jF (by unfold zCJ; omega) (zRel.jF (by unfold zCJ; omega) (zRel.jF (by unfold zCJ; omega) hrel)))
          have := hr8.pl (x := r.2) ht
          rw [zsA_same] at this
          exact this
        refine ih (zsF (zsF (zsF (zsF σ (18 + t) 8 r.1) (18 + t) 9 r.2) 5 4 (σ.1 5 4 + 1)) (18 + t) 6 r.2) hR9 r.2 (D ++ [r.1]) (L + (-1)) (by omega) (by omega) (by omega) (by omega) (by rw [List.length_append]; simp; omega) hrq (zdr_F hdq (by omega)) (fun c1 q1 q2 => h c1 q1 ?_)
        rw [List.append_assoc] at q2
        exact q2
    · refine z_vret dX6_draftLetters_37 rfl ?_
      have hzl : zlets (μ.2 1) (zmr (μ.2 9) t) (μ.2 10 t) (m + 1) p = ([], p) := by
        rcases Decidable.em (p < μ.2 10 t) with hq | hq
        · have hzc := hrg.1 hq
          refine zlets_ot ?_ ?_
          · rw [zst_in hp0 hq]; exact (hrw p).1
          · rw [hr', ← zat_in (cats := μ.2 1) (s := r.1) (by omega) (by omega)]; exact c34
        · exact zlets_no (by rw [zst_out (by omega)]; decide)
      rw [hzl, List.append_nil] at h
      exact h _ (zRel.jF (by unfold zCJ; omega) (zRel.jF (by unfold zCJ; omega) hrel)) (zdr_F (zdr_F hd (by omega)) (by omega))

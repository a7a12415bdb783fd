def zsS (σ : zSt) (c : Nat) (s n x : Int) : zSt := (σ.1, fun a z => if a = c ∧ s ≤ z ∧ (z - s) % 256 = 0 ∧ z < s + 256 * n then x else σ.2 a z)
theorem zsS_0 {σ : zSt} {c : Nat} {s x : Int} : zsS σ c s 0 x = σ := Prod.ext rfl (funext fun a => funext fun z => if_neg (by omega))
theorem zsS_F {σ : zSt} {c a b : Nat} {s n x : Int} : (zsS σ c s n x).1 a b = σ.1 a b := rfl
theorem zsS_arr {σ : zSt} {c a : Nat} {s n x : Int} (h : a ≠ c) : (zsS σ c s n x).2 a = σ.2 a := by funext z; exact if_neg (fun q => h q.1)
theorem zsS_ne1 {σ : zSt} {c a : Nat} {s n x z : Int} (h : ¬ (a = c ∧ s ≤ z ∧ (z - s) % 256 = 0 ∧ z < s + 256 * n)) : (zsS σ c s n x).2 a z = σ.2 a z := if_neg h
theorem zsS_S {σ : zSt} {c : Nat} {s n x z : Int} (h0 : 0 ≤ n) (hz : z = s + 256 * n) : zsA (zsS σ c s n x) c z x = zsS σ c s (n + 1) x := by
  subst hz
  refine Prod.ext rfl (funext fun a => funext fun z => ?_)
  show (if a = c ∧ z = s + 256 * n then x else if a = c ∧ s ≤ z ∧ (z - s) % 256 = 0 ∧ z < s + 256 * n then x else σ.2 a z) = if a = c ∧ s ≤ z ∧ (z - s) % 256 = 0 ∧ z < s + 256 * (n + 1) then x else σ.2 a z
  by_cases h1 : a = c ∧ z = s + 256 * n
  · rw [if_pos h1, if_pos ⟨h1.1, by omega, by omega, by omega⟩]
  · rw [if_neg h1]
    by_cases h2 : a = c ∧ s ≤ z ∧ (z - s) % 256 = 0 ∧ z < s + 256 * n
    · rw [if_pos h2, if_pos ⟨h2.1, h2.2.1, h2.2.2.1, by omega⟩]
    · rw [if_neg h2, if_neg (fun q => h2 ⟨q.1, q.2.1, q.2.2.1, by have := q.2.2.2; have h4 : ¬ z = s + 256 * n := fun e => h1 ⟨q.1, e⟩; have := q.2.2.1; omega⟩)]

set_option maxRecDepth 100000 in
theorem L_X0_setE {G : zG} {σ : zSt} {Post : Option Value → zSt → Prop} (s c g : Int) (hR : zRg σ) (hs0 : 0 ≤ s) (hs1 : s < 256) (hc : zR c) (hg : g = σ.1 1 2) (hg0 : 0 ≤ g) (hg1 : g ≤ 20) (h : Post none (zsS σ 9 s g c)) : ∀ (m : Nat) (i j : Int) (hi : i = s + 256 * j) (hj0 : 0 ≤ j) (hm : j + m = g), zV G shC mX0_setEverywhere 20 [some (.ref (zad G 1)), some (.int (zI s)), some (.int (zI c)), some (.int (zI i))] [] (zsS σ 9 s j c) Post := by
  intro m
  induction m with
  | zero =>
    intro i j hi hj0 hm
    refine z_iload_3 dX0_setEverywhere_20 ?_
    refine z_aload_0 dX0_setEverywhere_21 ?_
    refine z_getI (j := 2) dX0_setEverywhere_22 zf_X0_26 rfl rfl ?_
    refine z_top (b := σ.1 1 2) zsS_F ?_
    have w1 : zR (σ.1 1 2) := hR.1 1 2
    refine z_sipush 256 dX0_setEverywhere_25 (by decide +kernel) ?_
    refine z_imul dX0_setEverywhere_28 ?_
    refine z_icmp_ge (tgt := 57) dX0_setEverywhere_29 (by decide) (by omega) (by omega) (fun c29 => ?_) (fun c29 => by exfalso; omega)
    refine z_vret dX0_setEverywhere_57 rfl ?_
    have e : j = g := by omega
    subst e
    exact h
  | succ m ih =>
    intro i j hi hj0 hm
    refine z_iload_3 dX0_setEverywhere_20 ?_
    refine z_aload_0 dX0_setEverywhere_21 ?_
    refine z_getI (j := 2) dX0_setEverywhere_22 zf_X0_26 rfl rfl ?_
    refine z_top (b := σ.1 1 2) zsS_F ?_
    have w1 : zR (σ.1 1 2) := hR.1 1 2
    refine z_sipush 256 dX0_setEverywhere_25 (by decide +kernel) ?_
    refine z_imul dX0_setEverywhere_28 ?_
    refine z_icmp_ge (tgt := 57) dX0_setEverywhere_29 (by decide) (by omega) (by omega) (fun c29 => by exfalso; omega) (fun c29 => ?_)
    refine z_iload_3 dX0_setEverywhere_32 ?_
    refine z_aload_0 dX0_setEverywhere_33 ?_
    refine z_getR (j := 1) dX0_setEverywhere_34 zf_X0_15 rfl rfl ?_
    refine z_alenI dX0_setEverywhere_37 rfl ?_
    refine z_top (b := 5120) rfl ?_
    refine z_icmp_ge (tgt := 57) dX0_setEverywhere_38 (by decide) (by omega) ⟨by decide, by decide⟩ (fun c38 => by exfalso; omega) (fun c38 => ?_)
    refine z_aload_0 dX0_setEverywhere_41 ?_
    refine z_getR (j := 1) dX0_setEverywhere_42 zf_X0_15 rfl rfl ?_
    refine z_iload_3 dX0_setEverywhere_45 ?_
    refine z_iload_2 dX0_setEverywhere_46 ?_
    refine z_iast dX0_setEverywhere_47 rfl (by decide) (by omega) (by omega) (by omega) ?_
    refine z_iincw_3 dX0_setEverywhere_48 (Nat.le_of_ble_eq_true rfl) rfl ?_
    refine z_goto (tgt := 20) dX0_setEverywhere_54 (by decide) ?_
    exact z_st (zsS_S hj0 hi) (ih (i + 256) (j + 1) (by omega) (by omega) (by omega))

set_option maxRecDepth 100000 in
theorem M_X0_setEverywhere {G : zG} {σ : zSt} {Post : Option Value → zSt → Prop} (s c : Int) (hs0 : 0 ≤ s) (hs1 : s < 256) (hc : zR c) (hg0 : 0 ≤ σ.1 1 2) (hg1 : σ.1 1 2 ≤ 20) (h : Post none (zsS (zsA σ 8 s c) 9 s (σ.1 1 2) c)) : zV G shC mX0_setEverywhere 0 (zini 4 [.ref (zad G 1), .int (zI s), .int (zI c)]) [] σ Post := by
  refine z_rg (fun hR => ?_)
  refine z_lv (lv' := [some (.ref (zad G 1)), some (.int (zI s)), some (.int (zI c)), none]) rfl ?_
  refine z_aload_0 dX0_setEverywhere_0 ?_
  refine z_iload_1 dX0_setEverywhere_1 ?_
  refine z_iload_2 dX0_setEverywhere_2 ?_
  refine z_callV mX0_setHere [.int (zI s), .int (zI c)] dX0_setEverywhere_3 zk_X0_setHere zl_X0_22 ⟨Nat.le_of_ble_eq_true rfl, Nat.le_of_ble_eq_true rfl⟩ rfl rfl (Nat.le_of_ble_eq_true rfl) (Nat.le_of_ble_eq_true rfl) ?_
  refine M_X0_setHere s c (by omega) (by omega) (by omega) ?_
  refine z_b0 ?_
  refine z_iload_1 dX0_setEverywhere_6 ?_
  refine z_if_lt (tgt := 17) dX0_setEverywhere_7 (by decide) (by omega) (fun c7 => by exfalso; omega) (fun c7 => ?_)
  refine z_iload_1 dX0_setEverywhere_10 ?_
  refine z_sipush 256 dX0_setEverywhere_11 (by decide +kernel) ?_
  refine z_icmp_lt (tgt := 18) dX0_setEverywhere_14 (by decide) (by omega) ⟨by decide, by decide⟩ (fun c14 => ?_) (fun c14 => by exfalso; omega)
  refine z_iload_1 dX0_setEverywhere_18 ?_
  refine z_istore_3 dX0_setEverywhere_19 (Nat.le_of_ble_eq_true rfl) rfl ?_
  exact z_st zsS_0.symm (L_X0_setE s c (σ.1 1 2) (hR.A hc) hs0 hs1 hc rfl hg0 hg1 h (σ.1 1 2).toNat s 0 (by omega) (by omega) (by omega))

set_option maxRecDepth 100000 in
theorem M_X0_beginGroup {G : zG} {σ : zSt} {Post : Option Value → zSt → Prop} (hg0 : 0 ≤ σ.1 1 2) (hg1 : σ.1 1 2 ≤ 20) (h1 : σ.1 1 2 < 20 → Post (some (.int (zI 1))) (zsF (zsC σ 8 0 9 (σ.1 1 2 * 256) 256) 1 2 (σ.1 1 2 + 1))) (h0 : σ.1 1 2 = 20 → Post (some (.int (zI 0))) σ) : zV G shC mX0_beginGroup 0 (zini 1 [.ref (zad G 1)]) [] σ Post := by
  refine z_rg (fun hR => ?_)
  refine z_lv (lv' := [some (.ref (zad G 1))]) rfl ?_
  refine z_aload_0 dX0_beginGroup_0 ?_
  refine z_getI (j := 2) dX0_beginGroup_1 zf_X0_26 rfl rfl ?_
  have w1 : zR (σ.1 1 2) := hR.1 1 2
  refine z_if_lt (tgt := 16) dX0_beginGroup_4 (by decide) (by omega) (fun c4 => by exfalso; omega) (fun c4 => ?_)
  refine z_aload_0 dX0_beginGroup_7 ?_
  refine z_getI (j := 2) dX0_beginGroup_8 zf_X0_26 rfl rfl ?_
  have w2 : zR (σ.1 1 2) := hR.1 1 2
  refine z_bipush 20 dX0_beginGroup_11 (by decide +kernel) ?_
  refine z_icmp_lt (tgt := 18) dX0_beginGroup_13 (by decide) (by omega) ⟨by decide, by decide⟩ (fun c13 => ?_) (fun c13 => ?_)
  · refine z_aload_0 dX0_beginGroup_18 ?_
    refine z_getR (j := 0) dX0_beginGroup_19 zf_X0_9 rfl rfl ?_
    refine z_iconst 0 dX0_beginGroup_22 rfl ?_
    refine z_aload_0 dX0_beginGroup_23 ?_
    refine z_getR (j := 1) dX0_beginGroup_24 zf_X0_15 rfl rfl ?_
    refine z_aload_0 dX0_beginGroup_27 ?_
    refine z_getI (j := 2) dX0_beginGroup_28 zf_X0_26 rfl rfl ?_
    have w3 : zR (σ.1 1 2) := hR.1 1 2
    refine z_sipush 256 dX0_beginGroup_31 (by decide +kernel) ?_
    refine z_imul dX0_beginGroup_34 ?_
    refine z_sipush 256 dX0_beginGroup_35 (by decide +kernel) ?_
    refine z_copy dX0_beginGroup_38 zl_X0_30 zn_native zn_static zn_initialized rfl rfl (by decide) (by decide) (by omega) (by omega) (by omega) (by omega) (by omega) ⟨Nat.le_of_ble_eq_true rfl, by decide +kernel⟩ (Nat.le_of_ble_eq_true rfl) ?_
    refine z_aload_0 dX0_beginGroup_41 ?_
    refine z_dup dX0_beginGroup_42 rfl ?_
    refine z_getI (j := 2) dX0_beginGroup_43 zf_X0_26 rfl rfl ?_
    refine z_top (b := σ.1 1 2) zsC_F ?_
    have w4 : zR (σ.1 1 2) := hR.1 1 2
    refine z_iconst 1 dX0_beginGroup_46 rfl ?_
    refine z_iadd dX0_beginGroup_47 ?_
    refine z_putI (j := 2) dX0_beginGroup_48 zp_X0_26 rfl rfl (by omega) ?_
    refine z_iconst 1 dX0_beginGroup_51 rfl ?_
    refine z_zret dX0_beginGroup_52 rfl (Or.inr rfl) ?_
    exact h1 (by omega)
  · refine z_iconst 0 dX0_beginGroup_16 rfl ?_
    refine z_zret dX0_beginGroup_17 rfl (Or.inl rfl) ?_
    exact h0 (by omega)

set_option maxRecDepth 100000 in
theorem M_X0_endGroup {G : zG} {σ : zSt} {Post : Option Value → zSt → Prop} (hg0 : 0 ≤ σ.1 1 2) (hg1 : σ.1 1 2 ≤ 20) (h1 : 0 < σ.1 1 2 → Post (some (.int (zI 1))) (zsC (zsF σ 1 2 (σ.1 1 2 - 1)) 9 ((σ.1 1 2 - 1) * 256) 8 0 256)) (h0 : σ.1 1 2 = 0 → Post (some (.int (zI 0))) σ) : zV G shC mX0_endGroup 0 (zini 1 [.ref (zad G 1)]) [] σ Post := by
  refine z_rg (fun hR => ?_)
  refine z_lv (lv' := [some (.ref (zad G 1))]) rfl ?_
  refine z_aload_0 dX0_endGroup_0 ?_
  refine z_getI (j := 2) dX0_endGroup_1 zf_X0_26 rfl rfl ?_
  have w1 : zR (σ.1 1 2) := hR.1 1 2
  refine z_if_le (tgt := 16) dX0_endGroup_4 (by decide) (by omega) (fun c4 => ?_) (fun c4 => ?_)
  · refine z_iconst 0 dX0_endGroup_16 rfl ?_
    refine z_zret dX0_endGroup_17 rfl (Or.inl rfl) ?_
    exact h0 (by omega)
  · refine z_aload_0 dX0_endGroup_7 ?_
    refine z_getI (j := 2) dX0_endGroup_8 zf_X0_26 rfl rfl ?_
    have w2 : zR (σ.1 1 2) := hR.1 1 2
    refine z_bipush 20 dX0_endGroup_11 (by decide +kernel) ?_
    refine z_icmp_le (tgt := 18) dX0_endGroup_13 (by decide) (by omega) ⟨by decide, by decide⟩ (fun c13 => ?_) (fun c13 => by exfalso; omega)
    refine z_aload_0 dX0_endGroup_18 ?_
    refine z_dup dX0_endGroup_19 rfl ?_
    refine z_getI (j := 2) dX0_endGroup_20 zf_X0_26 rfl rfl ?_
    have w3 : zR (σ.1 1 2) := hR.1 1 2
    refine z_iconst 1 dX0_endGroup_23 rfl ?_
    refine z_isub dX0_endGroup_24 ?_
    refine z_putI (j := 2) dX0_endGroup_25 zp_X0_26 rfl rfl (by omega) ?_
    refine z_aload_0 dX0_endGroup_28 ?_
    refine z_getR (j := 1) dX0_endGroup_29 zf_X0_15 rfl rfl ?_
    refine z_aload_0 dX0_endGroup_32 ?_
    refine z_getI (j := 2) dX0_endGroup_33 zf_X0_26 rfl rfl ?_
    refine z_top (b := ((σ.1 1 2) - 1)) zsF_eq ?_
    refine z_sipush 256 dX0_endGroup_36 (by decide +kernel) ?_
    refine z_imul dX0_endGroup_39 ?_
    refine z_aload_0 dX0_endGroup_40 ?_
    refine z_getR (j := 0) dX0_endGroup_41 zf_X0_9 rfl rfl ?_
    refine z_iconst 0 dX0_endGroup_44 rfl ?_
    refine z_sipush 256 dX0_endGroup_45 (by decide +kernel) ?_
    refine z_copy dX0_endGroup_48 zl_X0_30 zn_native zn_static zn_initialized rfl rfl (by decide) (by decide) (by omega) (by omega) (by omega) (by omega) (by omega) ⟨Nat.le_of_ble_eq_true rfl, by decide +kernel⟩ (Nat.le_of_ble_eq_true rfl) ?_
    refine z_iconst 1 dX0_endGroup_51 rfl ?_
    refine z_zret dX0_endGroup_52 rfl (Or.inr rfl) ?_
    exact h1 (by omega)

def zns (sg ln : Int → Int) (sz a k : Int) : Int := if 0 ≤ a ∧ a < sz ∧ 0 ≤ k ∧ k < ln a then sg (a * 40 + k) else -1
theorem zns_R (sg ln : Int → Int) (sz a k : Int) (h : ∀ q, zR (sg q)) : zR (zns sg ln sz a k) := by unfold zns; split; exact h _; omega
def zdl (d : Int) : Int := if 40 < d then 40 else d
theorem zdl_R {d : Int} (h : 0 ≤ d) : 0 ≤ zdl d ∧ zdl d ≤ 40 ∧ zdl d ≤ d := by unfold zdl; split <;> omega

set_option maxRecDepth 100000 in
theorem M_X3_has {G : zG} {σ : zSt} {Post : Option Value → zSt → Prop} (a : Int) (ha : zR a) (hsz : σ.1 5 3 ≤ 150) (h1 : 0 ≤ a → a < σ.1 5 3 → Post (some (.int (zI 1))) σ) (h0 : a < 0 ∨ σ.1 5 3 ≤ a → Post (some (.int (zI 0))) σ) : zV G shC mX3_has 0 (zini 2 [.ref (zad G 5), .int (zI a)]) [] σ Post := by
  refine z_rg (fun hR => ?_)
  refine z_lv (lv' := [some (.ref (zad G 5)), some (.int (zI a))]) rfl ?_
  refine z_iload_1 dX3_has_0 ?_
  refine z_if_lt (tgt := 25) dX3_has_1 (by decide) (by omega) (fun c1 => ?_) (fun c1 => ?_)
  · refine z_iconst 0 dX3_has_25 rfl ?_
    refine z_zret dX3_has_26 rfl (Or.inl rfl) ?_
    first | exact h1 (by omega) (by omega) | exact h0 (by omega) | (exfalso; omega)
  · refine z_iload_1 dX3_has_4 ?_
    refine z_aload_0 dX3_has_5 ?_
    refine z_getI (j := 3) dX3_has_6 zf_X3_21 rfl rfl ?_
    have w1 : zR (σ.1 5 3) := hR.1 5 3
    refine z_icmp_ge (tgt := 25) dX3_has_9 (by decide) (by omega) (by omega) (fun c9 => ?_) (fun c9 => ?_)
    · refine z_iconst 0 dX3_has_25 rfl ?_
      refine z_zret dX3_has_26 rfl (Or.inl rfl) ?_
      first | exact h1 (by omega) (by omega) | exact h0 (by omega) | (exfalso; omega)
    · refine z_iload_1 dX3_has_12 ?_
      refine z_aload_0 dX3_has_13 ?_
      refine z_getR (j := 1) dX3_has_14 zf_X3_15 rfl rfl ?_
      refine z_alenI dX3_has_17 rfl ?_
      refine z_top (b := 150) rfl ?_
      refine z_icmp_ge (tgt := 25) dX3_has_18 (by decide) (by omega) ⟨by decide, by decide⟩ (fun c18 => ?_) (fun c18 => ?_)
      · refine z_iconst 0 dX3_has_25 rfl ?_
        refine z_zret dX3_has_26 rfl (Or.inl rfl) ?_
        first | exact h1 (by omega) (by omega) | exact h0 (by omega) | (exfalso; omega)
      · refine z_iconst 1 dX3_has_21 rfl ?_
        refine z_goto (tgt := 26) dX3_has_22 (by decide) ?_
        refine z_zret dX3_has_26 rfl (Or.inr rfl) ?_
        first | exact h1 (by omega) (by omega) | exact h0 (by omega) | (exfalso; omega)

set_option maxRecDepth 100000 in
theorem M_X3_sign {G : zG} {σ : zSt} {Post : Option Value → zSt → Prop} (a k : Int) (ha : zR a) (hk : zR k) (hsz : σ.1 5 3 ≤ 150) (hln : ∀ q, 0 ≤ σ.2 14 q ∧ σ.2 14 q ≤ 40) (h : Post (some (.int (zI (zns (σ.2 13) (σ.2 14) (σ.1 5 3) a k)))) σ) : zV G shC mX3_sign 0 (zini 4 [.ref (zad G 5), .int (zI a), .int (zI k)]) [] σ Post := by
  refine z_rg (fun hR => ?_)
  refine z_lv (lv' := [some (.ref (zad G 5)), some (.int (zI a)), some (.int (zI k)), none]) rfl ?_
  have hln1 := hln a
  refine z_aload_0 dX3_sign_0 ?_
  refine z_iload_1 dX3_sign_1 ?_
  refine z_callV mX3_has [.int (zI a)] dX3_sign_2 zk_X3_has zl_X3_25 ⟨Nat.le_of_ble_eq_true rfl, Nat.le_of_ble_eq_true rfl⟩ rfl rfl (Nat.le_of_ble_eq_true rfl) (Nat.le_of_ble_eq_true rfl) ?_
  refine M_X3_has a (by omega) (by omega) (fun i1 i2 => ?_) (fun i1 => ?_)
  · refine z_b1 ?_
    refine z_if_eq (tgt := 22) dX3_sign_5 (by decide) ⟨by decide, by decide⟩ (fun c5 => by exfalso; omega) (fun c5 => ?_)
    refine z_iload_2 dX3_sign_8 ?_
    refine z_if_lt (tgt := 22) dX3_sign_9 (by decide) (by omega) (fun c9 => ?_) (fun c9 => ?_)
    · refine z_iconst (-1) dX3_sign_22 rfl ?_
      refine z_iret dX3_sign_23 rfl ?_
      exact zPe h (if_neg (by omega)).symm
    · refine z_iload_2 dX3_sign_12 ?_
      refine z_aload_0 dX3_sign_13 ?_
      refine z_getR (j := 1) dX3_sign_14 zf_X3_15 rfl rfl ?_
      refine z_iload_1 dX3_sign_17 ?_
      refine z_iald dX3_sign_18 rfl (by decide) (by omega) (by omega) ?_
      have w1 : zR (σ.2 14 a) := hR.2 14 a
      refine z_icmp_lt (tgt := 24) dX3_sign_19 (by decide) (by omega) (by omega) (fun c19 => ?_) (fun c19 => ?_)
      · refine z_iload_1 dX3_sign_24 ?_
        refine z_bipush 40 dX3_sign_25 (by decide +kernel) ?_
        refine z_imul dX3_sign_27 ?_
        refine z_iload_2 dX3_sign_28 ?_
        refine z_iadd dX3_sign_29 ?_
        refine z_istore_3 dX3_sign_30 (Nat.le_of_ble_eq_true rfl) rfl ?_
        refine z_iload_3 dX3_sign_31 ?_
        refine z_aload_0 dX3_sign_32 ?_
        refine z_getR (j := 0) dX3_sign_33 zf_X3_9 rfl rfl ?_
        refine z_alenI dX3_sign_36 rfl ?_
        refine z_top (b := 6000) rfl ?_
        refine z_icmp_ge (tgt := 49) dX3_sign_37 (by decide) (by omega) ⟨by decide, by decide⟩ (fun c37 => by exfalso; omega) (fun c37 => ?_)
        refine z_aload_0 dX3_sign_40 ?_
        refine z_getR (j := 0) dX3_sign_41 zf_X3_9 rfl rfl ?_
        refine z_iload_3 dX3_sign_44 ?_
        refine z_iald dX3_sign_45 rfl (by decide) (by omega) (by omega) ?_
        have w2 : zR (σ.2 13 ((a * 40) + k)) := hR.2 13 ((a * 40) + k)
        refine z_goto (tgt := 50) dX3_sign_46 (by decide) ?_
        refine z_iret dX3_sign_50 rfl ?_
        exact zPe h (if_pos (by omega)).symm
      · refine z_iconst (-1) dX3_sign_22 rfl ?_
        refine z_iret dX3_sign_23 rfl ?_
        exact zPe h (if_neg (by omega)).symm
  · refine z_b1 ?_
    refine z_if_eq (tgt := 22) dX3_sign_5 (by decide) ⟨by decide, by decide⟩ (fun c5 => ?_) (fun c5 => by exfalso; omega)
    refine z_iconst (-1) dX3_sign_22 rfl ?_
    refine z_iret dX3_sign_23 rfl ?_
    exact zPe h (if_neg (by omega)).symm

set_option maxRecDepth 100000 in
theorem M_X3_beginDraft {G : zG} {σ : zSt} {Post : Option Value → zSt → Prop} (h : Post none (zsF σ 5 4 0)) : zV G shC mX3_beginDraft 0 (zini 1 [.ref (zad G 5)]) [] σ Post := by
  refine z_rg (fun hR => ?_)
  refine z_lv (lv' := [some (.ref (zad G 5))]) rfl ?_
  refine z_aload_0 dX3_beginDraft_0 ?_
  refine z_iconst 0 dX3_beginDraft_1 rfl ?_
  refine z_putI (j := 4) dX3_beginDraft_2 zp_X3_29 rfl rfl ⟨by decide, by decide⟩ ?_
  refine z_vret dX3_beginDraft_5 rfl ?_
  exact h

set_option maxRecDepth 100000 in
theorem M_X3_growDraft {G : zG} {σ : zSt} {Post : Option Value → zSt → Prop} (c : Int) (hc : zR c) (hd0 : 0 ≤ σ.1 5 4) (hd1 : σ.1 5 4 ≤ 1000) (h1 : σ.1 5 4 < 40 → Post none (zsF (zsA σ 15 (σ.1 5 4) c) 5 4 (σ.1 5 4 + 1))) (h0 : 40 ≤ σ.1 5 4 → Post none (zsF σ 5 4 (σ.1 5 4 + 1))) : zV G shC mX3_growDraft 0 (zini 2 [.ref (zad G 5), .int (zI c)]) [] σ Post := by
  refine z_rg (fun hR => ?_)
  refine z_lv (lv' := [some (.ref (zad G 5)), some (.int (zI c))]) rfl ?_
  refine z_aload_0 dX3_growDraft_0 ?_
  refine z_getI (j := 4) dX3_growDraft_1 zf_X3_29 rfl rfl ?_
  have w1 : zR (σ.1 5 4) := hR.1 5 4
  refine z_if_lt (tgt := 29) dX3_growDraft_4 (by decide) (by omega) (fun c4 => by exfalso; omega) (fun c4 => ?_)
  refine z_aload_0 dX3_growDraft_7 ?_
  refine z_getI (j := 4) dX3_growDraft_8 zf_X3_29 rfl rfl ?_
  have w2 : zR (σ.1 5 4) := hR.1 5 4
  refine z_aload_0 dX3_growDraft_11 ?_
  refine z_getR (j := 2) dX3_growDraft_12 zf_X3_18 rfl rfl ?_
  refine z_alenI dX3_growDraft_15 rfl ?_
  refine z_top (b := 40) rfl ?_
  refine z_icmp_ge (tgt := 29) dX3_growDraft_16 (by decide) (by omega) ⟨by decide, by decide⟩ (fun c16 => ?_) (fun c16 => ?_)
  · refine z_aload_0 dX3_growDraft_29 ?_
    refine z_dup dX3_growDraft_30 rfl ?_
    refine z_getI (j := 4) dX3_growDraft_31 zf_X3_29 rfl rfl ?_
    have w3 : zR (σ.1 5 4) := hR.1 5 4
    refine z_iconst 1 dX3_growDraft_34 rfl ?_
    refine z_iadd dX3_growDraft_35 ?_
    refine z_putI (j := 4) dX3_growDraft_36 zp_X3_29 rfl rfl (by omega) ?_
    refine z_vret dX3_growDraft_39 rfl ?_
    first | exact h1 (by omega) | exact h0 (by omega)
  · refine z_aload_0 dX3_growDraft_19 ?_
    refine z_getR (j := 2) dX3_growDraft_20 zf_X3_18 rfl rfl ?_
    refine z_aload_0 dX3_growDraft_23 ?_
    refine z_getI (j := 4) dX3_growDraft_24 zf_X3_29 rfl rfl ?_
    have w4 : zR (σ.1 5 4) := hR.1 5 4
    refine z_iload_1 dX3_growDraft_27 ?_
    refine z_iast dX3_growDraft_28 rfl (by decide) (by omega) (by omega) (by omega) ?_
    refine z_aload_0 dX3_growDraft_29 ?_
    refine z_dup dX3_growDraft_30 rfl ?_
    refine z_getI (j := 4) dX3_growDraft_31 zf_X3_29 rfl rfl ?_
    refine z_top (b := σ.1 5 4) zsA_F ?_
    have w5 : zR (σ.1 5 4) := hR.1 5 4
    refine z_iconst 1 dX3_growDraft_34 rfl ?_
    refine z_iadd dX3_growDraft_35 ?_
    refine z_putI (j := 4) dX3_growDraft_36 zp_X3_29 rfl rfl (by omega) ?_
    refine z_vret dX3_growDraft_39 rfl ?_
    first | exact h1 (by omega) | exact h0 (by omega)

set_option maxRecDepth 100000 in
theorem M_X3_draftIsLong {G : zG} {σ : zSt} {Post : Option Value → zSt → Prop} (h1 : 40 < σ.1 5 4 → Post (some (.int (zI 1))) σ) (h0 : σ.1 5 4 ≤ 40 → Post (some (.int (zI 0))) σ) : zV G shC mX3_draftIsLong 0 (zini 1 [.ref (zad G 5)]) [] σ Post := by
  refine z_rg (fun hR => ?_)
  refine z_lv (lv' := [some (.ref (zad G 5))]) rfl ?_
  refine z_aload_0 dX3_draftIsLong_0 ?_
  refine z_getI (j := 4) dX3_draftIsLong_1 zf_X3_29 rfl rfl ?_
  have w1 : zR (σ.1 5 4) := hR.1 5 4
  refine z_bipush 40 dX3_draftIsLong_4 (by decide +kernel) ?_
  refine z_icmp_le (tgt := 13) dX3_draftIsLong_6 (by decide) (by omega) ⟨by decide, by decide⟩ (fun c6 => ?_) (fun c6 => ?_)
  · refine z_iconst 0 dX3_draftIsLong_13 rfl ?_
    refine z_zret dX3_draftIsLong_14 rfl (Or.inl rfl) ?_
    first | exact h1 (by omega) | exact h0 (by omega)
  · refine z_iconst 1 dX3_draftIsLong_9 rfl ?_
    refine z_goto (tgt := 14) dX3_draftIsLong_10 (by decide) ?_
    refine z_zret dX3_draftIsLong_14 rfl (Or.inr rfl) ?_
    first | exact h1 (by omega) | exact h0 (by omega)

set_option maxRecDepth 100000 in
theorem M_X3_draftLength {G : zG} {σ : zSt} {Post : Option Value → zSt → Prop} (h : Post (some (.int (zI (zdl (σ.1 5 4))))) σ) : zV G shC mX3_draftLength 0 (zini 1 [.ref (zad G 5)]) [] σ Post := by
  refine z_rg (fun hR => ?_)
  refine z_lv (lv' := [some (.ref (zad G 5))]) rfl ?_
  refine z_aload_0 dX3_draftLength_0 ?_
  refine z_callV mX3_draftIsLong [] dX3_draftLength_1 zk_X3_draftIsLong zl_X3_45 ⟨Nat.le_of_ble_eq_true rfl, Nat.le_of_ble_eq_true rfl⟩ rfl rfl (Nat.le_of_ble_eq_true rfl) (Nat.le_of_ble_eq_true rfl) ?_
  refine M_X3_draftIsLong (fun i1 => ?_) (fun i1 => ?_)
  · refine z_b1 ?_
    refine z_if_eq (tgt := 12) dX3_draftLength_4 (by decide) ⟨by decide, by decide⟩ (fun c4 => by exfalso; omega) (fun c4 => ?_)
    refine z_bipush 40 dX3_draftLength_7 (by decide +kernel) ?_
    refine z_goto (tgt := 16) dX3_draftLength_9 (by decide) ?_
    refine z_iret dX3_draftLength_16 rfl ?_
    exact zPe h (if_pos (by omega)).symm
  · refine z_b1 ?_
    refine z_if_eq (tgt := 12) dX3_draftLength_4 (by decide) ⟨by decide, by decide⟩ (fun c4 => ?_) (fun c4 => by exfalso; omega)
    refine z_aload_0 dX3_draftLength_12 ?_
    refine z_getI (j := 4) dX3_draftLength_13 zf_X3_29 rfl rfl ?_
    have w1 : zR (σ.1 5 4) := hR.1 5 4
    refine z_iret dX3_draftLength_16 rfl ?_
    exact zPe h (if_neg (by omega)).symm

def zisD (σ : zSt) (a : Int) : Prop := σ.2 14 a = zdl (σ.1 5 4) ∧ ∀ k, 0 ≤ k → k < σ.2 14 a → zns (σ.2 13) (σ.2 14) (σ.1 5 3) a k = σ.2 15 k

set_option maxRecDepth 100000 in
theorem L_X3_isDraft {G : zG} {σ : zSt} {Post : Option Value → zSt → Prop} (a : Int) (hR : zRg σ) (ha0 : 0 ≤ a) (ha : a < σ.1 5 3) (hsz0 : 0 ≤ σ.1 5 3) (hsz : σ.1 5 3 ≤ 150) (hln : ∀ q, 0 ≤ σ.2 14 q ∧ σ.2 14 q ≤ 40) (he : σ.2 14 a = zdl (σ.1 5 4)) (h1 : zisD σ a → Post (some (.int (zI 1))) σ) (h0 : ¬ zisD σ a → Post (some (.int (zI 0))) σ) : ∀ (m : Nat) (i : Int) (hi0 : 0 ≤ i) (hm : i + m = σ.2 14 a) (hk : ∀ k, 0 ≤ k → k < i → zns (σ.2 13) (σ.2 14) (σ.1 5 3) a k = σ.2 15 k), zV G shC mX3_isDraft 25 [some (.ref (zad G 5)), some (.int (zI a)), some (.int (zI i))] [] σ Post := by
  intro m
  induction m with
  | zero =>
    intro i hi0 hm hk
    have hln1 := hln a
    refine z_iload_2 dX3_isDraft_25 ?_
    refine z_aload_0 dX3_isDraft_26 ?_
    refine z_getR (j := 1) dX3_isDraft_27 zf_X3_15 rfl rfl ?_
    refine z_iload_1 dX3_isDraft_30 ?_
    refine z_iald dX3_isDraft_31 rfl (by decide) (by omega) (by omega) ?_
    have w1 : zR (σ.2 14 a) := hR.2 14 a
    refine z_icmp_ge (tgt := 67) dX3_isDraft_32 (by decide) (by omega) (by omega) (fun c32 => ?_) (fun c32 => by exfalso; omega)
    refine z_iconst 1 dX3_isDraft_67 rfl ?_
    refine z_zret dX3_isDraft_68 rfl (Or.inr rfl) ?_
    exact h1 ⟨he, fun k q0 q1 => hk k q0 (by omega)⟩
  | succ m ih =>
    intro i hi0 hm hk
    have hln1 := hln a
    refine z_iload_2 dX3_isDraft_25 ?_
    refine z_aload_0 dX3_isDraft_26 ?_
    refine z_getR (j := 1) dX3_isDraft_27 zf_X3_15 rfl rfl ?_
    refine z_iload_1 dX3_isDraft_30 ?_
    refine z_iald dX3_isDraft_31 rfl (by decide) (by omega) (by omega) ?_
    have w1 : zR (σ.2 14 a) := hR.2 14 a
    refine z_icmp_ge (tgt := 67) dX3_isDraft_32 (by decide) (by omega) (by omega) (fun c32 => by exfalso; omega) (fun c32 => ?_)
    refine z_iload_2 dX3_isDraft_35 ?_
    refine z_aload_0 dX3_isDraft_36 ?_
    refine z_getR (j := 2) dX3_isDraft_37 zf_X3_18 rfl rfl ?_
    refine z_alenI dX3_isDraft_40 rfl ?_
    refine z_top (b := 40) rfl ?_
    refine z_icmp_ge (tgt := 67) dX3_isDraft_41 (by decide) (by omega) ⟨by decide, by decide⟩ (fun c41 => by exfalso; omega) (fun c41 => ?_)
    refine z_aload_0 dX3_isDraft_44 ?_
    refine z_iload_1 dX3_isDraft_45 ?_
    refine z_iload_2 dX3_isDraft_46 ?_
    refine z_callV mX3_sign [.int (zI a), .int (zI i)] dX3_isDraft_47 zk_X3_sign zl_X3_49 ⟨Nat.le_of_ble_eq_true rfl, Nat.le_of_ble_eq_true rfl⟩ rfl rfl (Nat.le_of_ble_eq_true rfl) (Nat.le_of_ble_eq_true rfl) ?_
    refine M_X3_sign a i (by omega) (by omega) (by omega) hln ?_
    refine z_b1 ?_
    have w2 := zns_R (σ.2 13) (σ.2 14) (σ.1 5 3) a i (fun q => hR.2 13 q)
    refine z_aload_0 dX3_isDraft_50 ?_
    refine z_getR (j := 2) dX3_isDraft_51 zf_X3_18 rfl rfl ?_
    refine z_iload_2 dX3_isDraft_54 ?_
    refine z_iald dX3_isDraft_55 rfl (by decide) (by omega) (by omega) ?_
    have w3 : zR (σ.2 15 i) := hR.2 15 i
    refine z_icmp_eq (tgt := 61) dX3_isDraft_56 (by decide) (by omega) (by omega) (fun c56 => ?_) (fun c56 => ?_)
    · refine z_iinc_2 dX3_isDraft_61 (Nat.le_of_ble_eq_true rfl) rfl ?_
      refine z_goto (tgt := 25) dX3_isDraft_64 (by decide) ?_
      exact ih (i + 1) (by omega) (by omega) (fun k q0 q1 => by
        rcases Decidable.em (k = i) with q | q
        · subst q; omega
        · exact hk k q0 (by omega))
    · refine z_iconst 0 dX3_isDraft_59 rfl ?_
      refine z_zret dX3_isDraft_60 rfl (Or.inl rfl) ?_
      exact h0 (fun q => by have := q.2 i hi0 (by omega); omega)

set_option maxRecDepth 100000 in
theorem M_X3_isDraft {G : zG} {σ : zSt} {Post : Option Value → zSt → Prop} (a : Int) (ha0 : 0 ≤ a) (ha : a < σ.1 5 3) (hsz0 : 0 ≤ σ.1 5 3) (hsz : σ.1 5 3 ≤ 150) (hd0 : 0 ≤ σ.1 5 4) (hln : ∀ q, 0 ≤ σ.2 14 q ∧ σ.2 14 q ≤ 40) (h1 : zisD σ a → Post (some (.int (zI 1))) σ) (h0 : ¬ zisD σ a → Post (some (.int (zI 0))) σ) : zV G shC mX3_isDraft 0 (zini 3 [.ref (zad G 5), .int (zI a)]) [] σ Post := by
  refine z_rg (fun hR => ?_)
  refine z_lv (lv' := [some (.ref (zad G 5)), some (.int (zI a)), none]) rfl ?_
  have hln1 := hln a
  refine z_aload_0 dX3_isDraft_0 ?_
  refine z_iload_1 dX3_isDraft_1 ?_
  refine z_callV mX3_has [.int (zI a)] dX3_isDraft_2 zk_X3_has zl_X3_25 ⟨Nat.le_of_ble_eq_true rfl, Nat.le_of_ble_eq_true rfl⟩ rfl rfl (Nat.le_of_ble_eq_true rfl) (Nat.le_of_ble_eq_true rfl) ?_
  refine M_X3_has a (by omega) (by omega) (fun i1 i2 => ?_) (fun i1 => by exfalso; omega)
  refine z_b1 ?_
  refine z_if_eq (tgt := 21) dX3_isDraft_5 (by decide) ⟨by decide, by decide⟩ (fun c5 => by exfalso; omega) (fun c5 => ?_)
  refine z_aload_0 dX3_isDraft_8 ?_
  refine z_getR (j := 1) dX3_isDraft_9 zf_X3_15 rfl rfl ?_
  refine z_iload_1 dX3_isDraft_12 ?_
  refine z_iald dX3_isDraft_13 rfl (by decide) (by omega) (by omega) ?_
  have w1 : zR (σ.2 14 a) := hR.2 14 a
  refine z_aload_0 dX3_isDraft_14 ?_
  refine z_callV mX3_draftLength [] dX3_isDraft_15 zk_X3_draftLength zl_X3_35 ⟨Nat.le_of_ble_eq_true rfl, Nat.le_of_ble_eq_true rfl⟩ rfl rfl (Nat.le_of_ble_eq_true rfl) (Nat.le_of_ble_eq_true rfl) ?_
  refine M_X3_draftLength ?_
  refine z_b1 ?_
  have w2 := zdl_R (d := σ.1 5 4) (by omega)
  refine z_icmp_eq (tgt := 23) dX3_isDraft_18 (by decide) (by omega) (by omega) (fun c18 => ?_) (fun c18 => ?_)
  · refine z_iconst 0 dX3_isDraft_23 rfl ?_
    refine z_istore_2 dX3_isDraft_24 (Nat.le_of_ble_eq_true rfl) rfl ?_
    exact L_X3_isDraft a hR ha0 ha hsz0 hsz hln (by omega) h1 h0 (σ.2 14 a).toNat 0 (by omega) (by omega) (fun k q0 q1 => by omega)
  · refine z_iconst 0 dX3_isDraft_21 rfl ?_
    refine z_zret dX3_isDraft_22 rfl (Or.inl rfl) ?_
    exact h0 (fun q => by have := q.1; omega)

set_option maxRecDepth 100000 in
theorem L_X3_number {G : zG} {σ : zSt} {Post : Option Value → zSt → Prop} (hR : zRg σ) (hsz0 : 0 ≤ σ.1 5 3) (hsz : σ.1 5 3 ≤ 150) (hd0 : 0 ≤ σ.1 5 4) (hln : ∀ q, 0 ≤ σ.2 14 q ∧ σ.2 14 q ≤ 40) (h1 : ∀ j, 0 ≤ j → j < σ.1 5 3 → zisD σ j → (∀ i, 0 ≤ i → i < j → ¬ zisD σ i) → Post (some (.int (zI j))) σ) (h2 : (∀ j, 0 ≤ j → j < σ.1 5 3 → ¬ zisD σ j) → σ.1 5 3 < 150 → Post (some (.int (zI (σ.1 5 3)))) (zsF (zsA (zsC σ 15 0 13 (σ.1 5 3 * 40) (zdl (σ.1 5 4))) 14 (σ.1 5 3) (zdl (σ.1 5 4))) 5 3 (σ.1 5 3 + 1))) (h0 : (∀ j, 0 ≤ j → j < σ.1 5 3 → ¬ zisD σ j) → σ.1 5 3 = 150 → Post (some (.int (zI (-1)))) σ) : ∀ (m : Nat) (i : Int) (hi0 : 0 ≤ i) (hm : i + m = σ.1 5 3) (hk : ∀ j, 0 ≤ j → j < i → ¬ zisD σ j), zV G shC mX3_numberOfDraft 2 [some (.ref (zad G 5)), some (.int (zI i))] [] σ Post := by
  intro m
  induction m with
  | zero =>
    intro i hi0 hm hk
    refine z_iload_1 dX3_numberOfDraft_2 ?_
    refine z_aload_0 dX3_numberOfDraft_3 ?_
    refine z_getI (j := 3) dX3_numberOfDraft_4 zf_X3_21 rfl rfl ?_
    have w1 : zR (σ.1 5 3) := hR.1 5 3
    refine z_icmp_ge (tgt := 26) dX3_numberOfDraft_7 (by decide) (by omega) (by omega) (fun c7 => ?_) (fun c7 => by exfalso; omega)
    refine z_aload_0 dX3_numberOfDraft_26 ?_
    refine z_getI (j := 3) dX3_numberOfDraft_27 zf_X3_21 rfl rfl ?_
    have w2 : zR (σ.1 5 3) := hR.1 5 3
    refine z_if_lt (tgt := 45) dX3_numberOfDraft_30 (by decide) (by omega) (fun c30 => by exfalso; omega) (fun c30 => ?_)
    refine z_aload_0 dX3_numberOfDraft_33 ?_
    refine z_getI (j := 3) dX3_numberOfDraft_34 zf_X3_21 rfl rfl ?_
    have w3 : zR (σ.1 5 3) := hR.1 5 3
    refine z_aload_0 dX3_numberOfDraft_37 ?_
    refine z_getR (j := 1) dX3_numberOfDraft_38 zf_X3_15 rfl rfl ?_
    refine z_alenI dX3_numberOfDraft_41 rfl ?_
    refine z_top (b := 150) rfl ?_
    refine z_icmp_lt (tgt := 47) dX3_numberOfDraft_42 (by decide) (by omega) ⟨by decide, by decide⟩ (fun c42 => ?_) (fun c42 => ?_)
    · refine z_aload_0 dX3_numberOfDraft_47 ?_
      refine z_callV mX3_draftLength [] dX3_numberOfDraft_48 zk_X3_draftLength zl_X3_35 ⟨Nat.le_of_ble_eq_true rfl, Nat.le_of_ble_eq_true rfl⟩ rfl rfl (Nat.le_of_ble_eq_true rfl) (Nat.le_of_ble_eq_true rfl) ?_
      refine M_X3_draftLength ?_
      refine z_b1 ?_
      have w4 := zdl_R (d := σ.1 5 4) (by omega)
      refine z_istore_1 dX3_numberOfDraft_51 (Nat.le_of_ble_eq_true rfl) rfl ?_
      refine z_aload_0 dX3_numberOfDraft_52 ?_
      refine z_getR (j := 2) dX3_numberOfDraft_53 zf_X3_18 rfl rfl ?_
      refine z_iconst 0 dX3_numberOfDraft_56 rfl ?_
      refine z_aload_0 dX3_numberOfDraft_57 ?_
      refine z_getR (j := 0) dX3_numberOfDraft_58 zf_X3_9 rfl rfl ?_
      refine z_aload_0 dX3_numberOfDraft_61 ?_
      refine z_getI (j := 3) dX3_numberOfDraft_62 zf_X3_21 rfl rfl ?_
      have w5 : zR (σ.1 5 3) := hR.1 5 3
      refine z_bipush 40 dX3_numberOfDraft_65 (by decide +kernel) ?_
      refine z_imul dX3_numberOfDraft_67 ?_
      refine z_iload_1 dX3_numberOfDraft_68 ?_
      refine z_copy dX3_numberOfDraft_69 zl_X3_39 zn_native zn_static zn_initialized rfl rfl (by decide) (by decide) (by omega) (by omega) (by omega) (by omega) (by omega) ⟨Nat.le_of_ble_eq_true rfl, by decide +kernel⟩ (Nat.le_of_ble_eq_true rfl) ?_
      refine z_aload_0 dX3_numberOfDraft_72 ?_
      refine z_getR (j := 1) dX3_numberOfDraft_73 zf_X3_15 rfl rfl ?_
      refine z_aload_0 dX3_numberOfDraft_76 ?_
      refine z_getI (j := 3) dX3_numberOfDraft_77 zf_X3_21 rfl rfl ?_
      refine z_top (b := σ.1 5 3) zsC_F ?_
      have w6 : zR (σ.1 5 3) := hR.1 5 3
      refine z_iload_1 dX3_numberOfDraft_80 ?_
      refine z_iast dX3_numberOfDraft_81 rfl (by decide) (by omega) (by omega) (by omega) ?_
      refine z_aload_0 dX3_numberOfDraft_82 ?_
      refine z_dup dX3_numberOfDraft_83 rfl ?_
      refine z_getI (j := 3) dX3_numberOfDraft_84 zf_X3_21 rfl rfl ?_
      refine z_top (b := σ.1 5 3) (zsA_F.trans zsC_F) ?_
      have w7 : zR (σ.1 5 3) := hR.1 5 3
      refine z_iconst 1 dX3_numberOfDraft_87 rfl ?_
      refine z_iadd dX3_numberOfDraft_88 ?_
      refine z_putI (j := 3) dX3_numberOfDraft_89 zp_X3_21 rfl rfl (by omega) ?_
      refine z_aload_0 dX3_numberOfDraft_92 ?_
      refine z_getI (j := 3) dX3_numberOfDraft_93 zf_X3_21 rfl rfl ?_
      refine z_top (b := ((σ.1 5 3) + 1)) zsF_eq ?_
      refine z_iconst 1 dX3_numberOfDraft_96 rfl ?_
      refine z_isub dX3_numberOfDraft_97 ?_
      refine z_iret dX3_numberOfDraft_98 rfl ?_
      exact zPe (h2 (fun j q0 q1 => hk j q0 (by omega)) (by omega)) (by omega)
    · refine z_iconst (-1) dX3_numberOfDraft_45 rfl ?_
      refine z_iret dX3_numberOfDraft_46 rfl ?_
      exact h0 (fun j q0 q1 => hk j q0 (by omega)) (by omega)
  | succ m ih =>
    intro i hi0 hm hk
    refine z_iload_1 dX3_numberOfDraft_2 ?_
    refine z_aload_0 dX3_numberOfDraft_3 ?_
    refine z_getI (j := 3) dX3_numberOfDraft_4 zf_X3_21 rfl rfl ?_
    have w1 : zR (σ.1 5 3) := hR.1 5 3
    refine z_icmp_ge (tgt := 26) dX3_numberOfDraft_7 (by decide) (by omega) (by omega) (fun c7 => by exfalso; omega) (fun c7 => ?_)
    refine z_aload_0 dX3_numberOfDraft_10 ?_
    refine z_iload_1 dX3_numberOfDraft_11 ?_
    refine z_callV mX3_isDraft [.int (zI i)] dX3_numberOfDraft_12 zk_X3_isDraft zl_X3_32 ⟨Nat.le_of_ble_eq_true rfl, Nat.le_of_ble_eq_true rfl⟩ rfl rfl (Nat.le_of_ble_eq_true rfl) (Nat.le_of_ble_eq_true rfl) ?_
    refine M_X3_isDraft i (by omega) (by omega) hsz0 hsz hd0 hln (fun i1 => ?_) (fun i1 => ?_)
    · refine z_b1 ?_
      refine z_if_eq (tgt := 20) dX3_numberOfDraft_15 (by decide) ⟨by decide, by decide⟩ (fun c15 => by exfalso; omega) (fun c15 => ?_)
      refine z_iload_1 dX3_numberOfDraft_18 ?_
      refine z_iret dX3_numberOfDraft_19 rfl ?_
      exact h1 i hi0 (by omega) i1 hk
    · refine z_b1 ?_
      refine z_if_eq (tgt := 20) dX3_numberOfDraft_15 (by decide) ⟨by decide, by decide⟩ (fun c15 => ?_) (fun c15 => by exfalso; omega)
      refine z_iinc_1 dX3_numberOfDraft_20 (Nat.le_of_ble_eq_true rfl) rfl ?_
      refine z_goto (tgt := 2) dX3_numberOfDraft_23 (by decide) ?_
      exact ih (i + 1) (by omega) (by omega) (fun k q0 q1 => by
        rcases Decidable.em (k = i) with q | q
        · subst q; exact i1
        · exact hk k q0 (by omega))

set_option maxRecDepth 100000 in
theorem M_X3_numberOfDraft {G : zG} {σ : zSt} {Post : Option Value → zSt → Prop} (hsz0 : 0 ≤ σ.1 5 3) (hsz : σ.1 5 3 ≤ 150) (hd0 : 0 ≤ σ.1 5 4) (hln : ∀ q, 0 ≤ σ.2 14 q ∧ σ.2 14 q ≤ 40) (h1 : ∀ j, 0 ≤ j → j < σ.1 5 3 → zisD σ j → (∀ i, 0 ≤ i → i < j → ¬ zisD σ i) → Post (some (.int (zI j))) σ) (h2 : (∀ j, 0 ≤ j → j < σ.1 5 3 → ¬ zisD σ j) → σ.1 5 3 < 150 → Post (some (.int (zI (σ.1 5 3)))) (zsF (zsA (zsC σ 15 0 13 (σ.1 5 3 * 40) (zdl (σ.1 5 4))) 14 (σ.1 5 3) (zdl (σ.1 5 4))) 5 3 (σ.1 5 3 + 1))) (h0 : (∀ j, 0 ≤ j → j < σ.1 5 3 → ¬ zisD σ j) → σ.1 5 3 = 150 → Post (some (.int (zI (-1)))) σ) : zV G shC mX3_numberOfDraft 0 (zini 2 [.ref (zad G 5)]) [] σ Post := by
  refine z_rg (fun hR => ?_)
  refine z_lv (lv' := [some (.ref (zad G 5)), none]) rfl ?_
  refine z_iconst 0 dX3_numberOfDraft_0 rfl ?_
  refine z_istore_1 dX3_numberOfDraft_1 (Nat.le_of_ble_eq_true rfl) rfl ?_
  exact L_X3_number hR hsz0 hsz hd0 hln h1 h2 h0 (σ.1 5 3).toNat 0 (by omega) (by omega) (fun k q0 q1 => by omega)

set_option maxRecDepth 100000 in
theorem L_X3_areSame {G : zG} {σ : zSt} {Post : Option Value → zSt → Prop} (a b : Int) (ha : zR a) (hb : zR b) (hR : zRg σ) (hsz : σ.1 5 3 ≤ 150) (hln : ∀ q, 0 ≤ σ.2 14 q ∧ σ.2 14 q ≤ 40) (w : Int) (hw0 : 0 ≤ w) (hw : w ≤ 40) (hd : zns (σ.2 13) (σ.2 14) (σ.1 5 3) a w ≠ zns (σ.2 13) (σ.2 14) (σ.1 5 3) b w) (h0 : Post (some (.int (zI 0))) σ) : ∀ (m : Nat) (i : Int) (hi0 : 0 ≤ i) (hm : i + m = w), zV G shC mX3_areSame 2 [some (.ref (zad G 5)), some (.int (zI a)), some (.int (zI b)), some (.int (zI i))] [] σ Post := by
  intro m
  induction m with
  | zero =>
    intro i hi0 hm
    have e : i = w := by omega
    subst e
    refine z_iload_3 dX3_areSame_2 ?_
    refine z_bipush 40 dX3_areSame_3 (by decide +kernel) ?_
    refine z_icmp_gt (tgt := 31) dX3_areSame_5 (by decide) (by omega) ⟨by decide, by decide⟩ (fun c5 => by exfalso; omega) (fun c5 => ?_)
    refine z_aload_0 dX3_areSame_8 ?_
    refine z_iload_1 dX3_areSame_9 ?_
    refine z_iload_3 dX3_areSame_10 ?_
    refine z_callV mX3_sign [.int (zI a), .int (zI i)] dX3_areSame_11 zk_X3_sign zl_X3_49 ⟨Nat.le_of_ble_eq_true rfl, Nat.le_of_ble_eq_true rfl⟩ rfl rfl (Nat.le_of_ble_eq_true rfl) (Nat.le_of_ble_eq_true rfl) ?_
    refine M_X3_sign a i (by omega) (by omega) (by omega) hln ?_
    refine z_b1 ?_
    have w1 := zns_R (σ.2 13) (σ.2 14) (σ.1 5 3) a i (fun q => hR.2 13 q)
    refine z_aload_0 dX3_areSame_14 ?_
    refine z_iload_2 dX3_areSame_15 ?_
    refine z_iload_3 dX3_areSame_16 ?_
    refine z_callV mX3_sign [.int (zI b), .int (zI i)] dX3_areSame_17 zk_X3_sign zl_X3_49 ⟨Nat.le_of_ble_eq_true rfl, Nat.le_of_ble_eq_true rfl⟩ rfl rfl (Nat.le_of_ble_eq_true rfl) (Nat.le_of_ble_eq_true rfl) ?_
    refine M_X3_sign b i (by omega) (by omega) (by omega) hln ?_
    refine z_b1 ?_
    have w2 := zns_R (σ.2 13) (σ.2 14) (σ.1 5 3) b i (fun q => hR.2 13 q)
    refine z_icmp_eq (tgt := 25) dX3_areSame_20 (by decide) (by omega) (by omega) (fun c20 => by exfalso; omega) (fun c20 => ?_)
    refine z_iconst 0 dX3_areSame_23 rfl ?_
    refine z_zret dX3_areSame_24 rfl (Or.inl rfl) ?_
    exact h0
  | succ m ih =>
    intro i hi0 hm
    refine z_iload_3 dX3_areSame_2 ?_
    refine z_bipush 40 dX3_areSame_3 (by decide +kernel) ?_
    refine z_icmp_gt (tgt := 31) dX3_areSame_5 (by decide) (by omega) ⟨by decide, by decide⟩ (fun c5 => by exfalso; omega) (fun c5 => ?_)
    refine z_aload_0 dX3_areSame_8 ?_
    refine z_iload_1 dX3_areSame_9 ?_
    refine z_iload_3 dX3_areSame_10 ?_
    refine z_callV mX3_sign [.int (zI a), .int (zI i)] dX3_areSame_11 zk_X3_sign zl_X3_49 ⟨Nat.le_of_ble_eq_true rfl, Nat.le_of_ble_eq_true rfl⟩ rfl rfl (Nat.le_of_ble_eq_true rfl) (Nat.le_of_ble_eq_true rfl) ?_
    refine M_X3_sign a i (by omega) (by omega) (by omega) hln ?_
    refine z_b1 ?_
    have w1 := zns_R (σ.2 13) (σ.2 14) (σ.1 5 3) a i (fun q => hR.2 13 q)
    refine z_aload_0 dX3_areSame_14 ?_
    refine z_iload_2 dX3_areSame_15 ?_
    refine z_iload_3 dX3_areSame_16 ?_
    refine z_callV mX3_sign [.int (zI b), .int (zI i)] dX3_areSame_17 zk_X3_sign zl_X3_49 ⟨Nat.le_of_ble_eq_true rfl, Nat.le_of_ble_eq_true rfl⟩ rfl rfl (Nat.le_of_ble_eq_true rfl) (Nat.le_of_ble_eq_true rfl) ?_
    refine M_X3_sign b i (by omega) (by omega) (by omega) hln ?_
    refine z_b1 ?_
    have w2 := zns_R (σ.2 13) (σ.2 14) (σ.1 5 3) b i (fun q => hR.2 13 q)
    refine z_icmp_eq (tgt := 25) dX3_areSame_20 (by decide) (by omega) (by omega) (fun c20 => ?_) (fun c20 => ?_)
    · refine z_iinc_3 dX3_areSame_25 (Nat.le_of_ble_eq_true rfl) rfl ?_
      refine z_goto (tgt := 2) dX3_areSame_28 (by decide) ?_
      exact ih (i + 1) (by omega) (by omega)
    · refine z_iconst 0 dX3_areSame_23 rfl ?_
      refine z_zret dX3_areSame_24 rfl (Or.inl rfl) ?_
      exact h0

set_option maxRecDepth 100000 in
theorem M_X3_areSame {G : zG} {σ : zSt} {Post : Option Value → zSt → Prop} (a b : Int) (ha : zR a) (hb : zR b) (hsz : σ.1 5 3 ≤ 150) (hln : ∀ q, 0 ≤ σ.2 14 q ∧ σ.2 14 q ≤ 40) (hd : ∃ w, 0 ≤ w ∧ w ≤ 40 ∧ zns (σ.2 13) (σ.2 14) (σ.1 5 3) a w ≠ zns (σ.2 13) (σ.2 14) (σ.1 5 3) b w) (h0 : Post (some (.int (zI 0))) σ) : zV G shC mX3_areSame 0 (zini 4 [.ref (zad G 5), .int (zI a), .int (zI b)]) [] σ Post := by
  refine z_rg (fun hR => ?_)
  refine z_lv (lv' := [some (.ref (zad G 5)), some (.int (zI a)), some (.int (zI b)), none]) rfl ?_
  obtain ⟨w, hw0, hw, hd⟩ := hd
  refine z_iconst 0 dX3_areSame_0 rfl ?_
  refine z_istore_3 dX3_areSame_1 (Nat.le_of_ble_eq_true rfl) rfl ?_
  exact L_X3_areSame a b ha hb hR hsz hln w hw0 hw hd h0 w.toNat 0 (by omega) (by omega)

set_option maxRecDepth 100000 in
theorem L_X3_allD1 {G : zG} {σ : zSt} {Post : Option Value → zSt → Prop} (a : Int) (hR : zRg σ) (ha0 : 0 ≤ a) (ha : a < σ.1 5 3) (hsz : σ.1 5 3 ≤ 150) (hln : ∀ q, 0 ≤ σ.2 14 q ∧ σ.2 14 q ≤ 40) (hd : ∀ a b, 0 ≤ b → b < a → a < σ.1 5 3 → ∃ w, 0 ≤ w ∧ w ≤ 40 ∧ zns (σ.2 13) (σ.2 14) (σ.1 5 3) a w ≠ zns (σ.2 13) (σ.2 14) (σ.1 5 3) b w) (h : zV G shC mX3_allDiffer 34 [some (.ref (zad G 5)), some (.int (zI a)), some (.int (zI a))] [] σ Post) : ∀ (m : Nat) (i : Int) (hi0 : 0 ≤ i) (hm : i + m = a), zV G shC mX3_allDiffer 12 [some (.ref (zad G 5)), some (.int (zI a)), some (.int (zI i))] [] σ Post := by
  intro m
  induction m with
  | zero =>
    intro i hi0 hm
    refine z_iload_2 dX3_allDiffer_12 ?_
    refine z_iload_1 dX3_allDiffer_13 ?_
    refine z_icmp_ge (tgt := 34) dX3_allDiffer_14 (by decide) (by omega) (by omega) (fun c14 => ?_) (fun c14 => by exfalso; omega)
    have e : i = a := by omega
    subst e
    exact h
  | succ m ih =>
    intro i hi0 hm
    refine z_iload_2 dX3_allDiffer_12 ?_
    refine z_iload_1 dX3_allDiffer_13 ?_
    refine z_icmp_ge (tgt := 34) dX3_allDiffer_14 (by decide) (by omega) (by omega) (fun c14 => by exfalso; omega) (fun c14 => ?_)
    refine z_aload_0 dX3_allDiffer_17 ?_
    refine z_iload_1 dX3_allDiffer_18 ?_
    refine z_iload_2 dX3_allDiffer_19 ?_
    refine z_callV mX3_areSame [.int (zI a), .int (zI i)] dX3_allDiffer_20 zk_X3_areSame zl_X3_53 ⟨Nat.le_of_ble_eq_true rfl, Nat.le_of_ble_eq_true rfl⟩ rfl rfl (Nat.le_of_ble_eq_true rfl) (Nat.le_of_ble_eq_true rfl) ?_
    refine M_X3_areSame a i (by omega) (by omega) hsz hln (hd _ _ (by omega) (by omega) (by omega)) ?_
    refine z_b1 ?_
    refine z_if_eq (tgt := 28) dX3_allDiffer_23 (by decide) ⟨by decide, by decide⟩ (fun c23 => ?_) (fun c23 => by exfalso; omega)
    refine z_iinc_2 dX3_allDiffer_28 (Nat.le_of_ble_eq_true rfl) rfl ?_
    refine z_goto (tgt := 12) dX3_allDiffer_31 (by decide) ?_
    exact ih (i + 1) (by omega) (by omega)

set_option maxRecDepth 100000 in
theorem L_X3_allD2 {G : zG} {σ : zSt} {Post : Option Value → zSt → Prop} (hR : zRg σ) (hsz : σ.1 5 3 ≤ 150) (hln : ∀ q, 0 ≤ σ.2 14 q ∧ σ.2 14 q ≤ 40) (hd : ∀ a b, 0 ≤ b → b < a → a < σ.1 5 3 → ∃ w, 0 ≤ w ∧ w ≤ 40 ∧ zns (σ.2 13) (σ.2 14) (σ.1 5 3) a w ≠ zns (σ.2 13) (σ.2 14) (σ.1 5 3) b w) (h : Post (some (.int (zI 1))) σ) : ∀ (m : Nat) (i : Int) (x : Option Value) (hi0 : 0 ≤ i) (hm : i + m = σ.1 5 3), zV G shC mX3_allDiffer 2 [some (.ref (zad G 5)), some (.int (zI i)), x] [] σ Post := by
  intro m
  induction m with
  | zero =>
    intro i x hi0 hm
    refine z_iload_1 dX3_allDiffer_2 ?_
    refine z_aload_0 dX3_allDiffer_3 ?_
    refine z_getI (j := 3) dX3_allDiffer_4 zf_X3_21 rfl rfl ?_
    have w1 : zR (σ.1 5 3) := hR.1 5 3
    refine z_icmp_ge (tgt := 40) dX3_allDiffer_7 (by decide) (by omega) (by omega) (fun c7 => ?_) (fun c7 => by exfalso; omega)
    refine z_iconst 1 dX3_allDiffer_40 rfl ?_
    refine z_zret dX3_allDiffer_41 rfl (Or.inr rfl) ?_
    exact h
  | succ m ih =>
    intro i x hi0 hm
    refine z_iload_1 dX3_allDiffer_2 ?_
    refine z_aload_0 dX3_allDiffer_3 ?_
    refine z_getI (j := 3) dX3_allDiffer_4 zf_X3_21 rfl rfl ?_
    have w1 : zR (σ.1 5 3) := hR.1 5 3
    refine z_icmp_ge (tgt := 40) dX3_allDiffer_7 (by decide) (by omega) (by omega) (fun c7 => by exfalso; omega) (fun c7 => ?_)
    refine z_iconst 0 dX3_allDiffer_10 rfl ?_
    refine z_istore_2 dX3_allDiffer_11 (Nat.le_of_ble_eq_true rfl) rfl ?_
    refine L_X3_allD1 i hR hi0 (by omega) hsz hln hd ?_ i.toNat 0 (by omega) (by omega)
    refine z_iinc_1 dX3_allDiffer_34 (Nat.le_of_ble_eq_true rfl) rfl ?_
    refine z_goto (tgt := 2) dX3_allDiffer_37 (by decide) ?_
    exact ih (i + 1) _ (by omega) (by omega)

set_option maxRecDepth 100000 in
theorem M_X3_allDiffer {G : zG} {σ : zSt} {Post : Option Value → zSt → Prop} (hsz0 : 0 ≤ σ.1 5 3) (hsz : σ.1 5 3 ≤ 150) (hln : ∀ q, 0 ≤ σ.2 14 q ∧ σ.2 14 q ≤ 40) (hd : ∀ a b, 0 ≤ b → b < a → a < σ.1 5 3 → ∃ w, 0 ≤ w ∧ w ≤ 40 ∧ zns (σ.2 13) (σ.2 14) (σ.1 5 3) a w ≠ zns (σ.2 13) (σ.2 14) (σ.1 5 3) b w) (h : Post (some (.int (zI 1))) σ) : zV G shC mX3_allDiffer 0 (zini 3 [.ref (zad G 5)]) [] σ Post := by
  refine z_rg (fun hR => ?_)
  refine z_lv (lv' := [some (.ref (zad G 5)), none, none]) rfl ?_
  refine z_iconst 0 dX3_allDiffer_0 rfl ?_
  refine z_istore_1 dX3_allDiffer_1 (Nat.le_of_ble_eq_true rfl) rfl ?_
  exact L_X3_allD2 hR hsz hln hd h (σ.1 5 3).toNat 0 none (by omega) (by omega)

def zpt (σ : zSt) (c : Nat) (b v0 v1 v2 v3 v4 v5 : Int) : zSt := zsA (zsA (zsA (zsA (zsA (zsA σ c b v0) c (b + 1) v1) c (b + 2) v2) c (b + 3) v3) c (b + 4) v4) c (b + 5) v5
def zrp (σ : zSt) (c : Nat) (b v0 v1 v2 : Int) : zSt := zsA (zsA (zsA σ c b v0) c (b + 1) v1) c (b + 2) v2

set_option maxRecDepth 100000 in
theorem M_X5_isFull {G : zG} {σ : zSt} {Post : Option Value → zSt → Prop} (h1 : 600 ≤ σ.1 6 1 → Post (some (.int (zI 1))) σ) (h0 : σ.1 6 1 < 600 → Post (some (.int (zI 0))) σ) : zV G shC mX5_isFull 0 (zini 1 [.ref (zad G 6)]) [] σ Post := by
  refine z_rg (fun hR => ?_)
  refine z_lv (lv' := [some (.ref (zad G 6))]) rfl ?_
  refine z_aload_0 dX5_isFull_0 ?_
  refine z_getI (j := 1) dX5_isFull_1 zf_X5_15 rfl rfl ?_
  have w1 : zR (σ.1 6 1) := hR.1 6 1
  refine z_sipush 600 dX5_isFull_4 (by decide +kernel) ?_
  refine z_icmp_lt (tgt := 14) dX5_isFull_7 (by decide) (by omega) ⟨by decide, by decide⟩ (fun c7 => ?_) (fun c7 => ?_)
  · refine z_iconst 0 dX5_isFull_14 rfl ?_
    refine z_zret dX5_isFull_15 rfl (Or.inl rfl) ?_
    first | exact h1 (by omega) | exact h0 (by omega)
  · refine z_iconst 1 dX5_isFull_10 rfl ?_
    refine z_goto (tgt := 15) dX5_isFull_11 (by decide) ?_
    refine z_zret dX5_isFull_15 rfl (Or.inr rfl) ?_
    first | exact h1 (by omega) | exact h0 (by omega)

set_option maxRecDepth 100000 in
theorem M_X5_has {G : zG} {σ : zSt} {Post : Option Value → zSt → Prop} (a : Int) (ha : zR a) (h1 : 0 ≤ a → a < σ.1 6 1 → Post (some (.int (zI 1))) σ) (h0 : a < 0 ∨ σ.1 6 1 ≤ a → Post (some (.int (zI 0))) σ) : zV G shC mX5_has 0 (zini 2 [.ref (zad G 6), .int (zI a)]) [] σ Post := by
  refine z_rg (fun hR => ?_)
  refine z_lv (lv' := [some (.ref (zad G 6)), some (.int (zI a))]) rfl ?_
  refine z_iload_1 dX5_has_0 ?_
  refine z_if_lt (tgt := 16) dX5_has_1 (by decide) (by omega) (fun c1 => ?_) (fun c1 => ?_)
  · refine z_iconst 0 dX5_has_16 rfl ?_
    refine z_zret dX5_has_17 rfl (Or.inl rfl) ?_
    first | exact h1 (by omega) (by omega) | exact h0 (by omega)
  · refine z_iload_1 dX5_has_4 ?_
    refine z_aload_0 dX5_has_5 ?_
    refine z_getI (j := 1) dX5_has_6 zf_X5_15 rfl rfl ?_
    have w1 : zR (σ.1 6 1) := hR.1 6 1
    refine z_icmp_ge (tgt := 16) dX5_has_9 (by decide) (by omega) (by omega) (fun c9 => ?_) (fun c9 => ?_)
    · refine z_iconst 0 dX5_has_16 rfl ?_
      refine z_zret dX5_has_17 rfl (Or.inl rfl) ?_
      first | exact h1 (by omega) (by omega) | exact h0 (by omega)
    · refine z_iconst 1 dX5_has_12 rfl ?_
      refine z_goto (tgt := 17) dX5_has_13 (by decide) ?_
      refine z_zret dX5_has_17 rfl (Or.inr rfl) ?_
      first | exact h1 (by omega) (by omega) | exact h0 (by omega)

set_option maxRecDepth 100000 in
theorem M_X5_part {G : zG} {σ : zSt} {Post : Option Value → zSt → Prop} (a k : Int) (ha0 : 0 ≤ a) (ha : a < σ.1 6 1) (hs : σ.1 6 1 ≤ 600) (hk0 : 0 ≤ k) (hk : k < 6) (h : Post (some (.int (zI (σ.2 16 (a * 6 + k))))) σ) : zV G shC mX5_part 0 (zini 4 [.ref (zad G 6), .int (zI a), .int (zI k)]) [] σ Post := by
  refine z_rg (fun hR => ?_)
  refine z_lv (lv' := [some (.ref (zad G 6)), some (.int (zI a)), some (.int (zI k)), none]) rfl ?_
  refine z_iload_1 dX5_part_0 ?_
  refine z_bipush 6 dX5_part_1 (by decide +kernel) ?_
  refine z_imul dX5_part_3 ?_
  refine z_iload_2 dX5_part_4 ?_
  refine z_iadd dX5_part_5 ?_
  refine z_istore_3 dX5_part_6 (Nat.le_of_ble_eq_true rfl) rfl ?_
  refine z_aload_0 dX5_part_7 ?_
  refine z_iload_1 dX5_part_8 ?_
  refine z_callV mX5_has [.int (zI a)] dX5_part_9 zk_X5_has zl_X5_31 ⟨Nat.le_of_ble_eq_true rfl, Nat.le_of_ble_eq_true rfl⟩ rfl rfl (Nat.le_of_ble_eq_true rfl) (Nat.le_of_ble_eq_true rfl) ?_
  refine M_X5_has a (by omega) (fun i1 i2 => ?_) (fun i1 => by exfalso; omega)
  refine z_b1 ?_
  refine z_if_eq (tgt := 37) dX5_part_12 (by decide) ⟨by decide, by decide⟩ (fun c12 => by exfalso; omega) (fun c12 => ?_)
  refine z_iload_3 dX5_part_15 ?_
  refine z_if_lt (tgt := 37) dX5_part_16 (by decide) (by omega) (fun c16 => by exfalso; omega) (fun c16 => ?_)
  refine z_iload_3 dX5_part_19 ?_
  refine z_aload_0 dX5_part_20 ?_
  refine z_getR (j := 0) dX5_part_21 zf_X5_9 rfl rfl ?_
  refine z_alenI dX5_part_24 rfl ?_
  refine z_top (b := 3600) rfl ?_
  refine z_icmp_ge (tgt := 37) dX5_part_25 (by decide) (by omega) ⟨by decide, by decide⟩ (fun c25 => by exfalso; omega) (fun c25 => ?_)
  refine z_aload_0 dX5_part_28 ?_
  refine z_getR (j := 0) dX5_part_29 zf_X5_9 rfl rfl ?_
  refine z_iload_3 dX5_part_32 ?_
  refine z_iald dX5_part_33 rfl (by decide) (by omega) (by omega) ?_
  have w1 : zR (σ.2 16 ((a * 6) + k)) := hR.2 16 ((a * 6) + k)
  refine z_goto (tgt := 38) dX5_part_34 (by decide) ?_
  refine z_iret dX5_part_38 rfl ?_
  exact h

set_option maxRecDepth 100000 in
theorem M_X5_put {G : zG} {σ : zSt} {Post : Option Value → zSt → Prop} (k v c : Int) (t : Nat) (p : Int) (ht : t < 6) (hk : zR k) (hv : zR v) (hc : zR c) (hp : zR p) (hs0 : 0 ≤ σ.1 6 1) (hs : σ.1 6 1 ≤ 600) (hb0 : 0 ≤ σ.1 (18 + t) 2) (h1 : σ.1 6 1 < 600 → Post (some (.int (zI (σ.1 6 1)))) (zsF (zpt σ 16 (σ.1 6 1 * 6) k v c (σ.1 (18 + t) 1) (σ.1 (18 + t) 2 - 1) p) 6 1 (σ.1 6 1 + 1))) (h0 : σ.1 6 1 = 600 → Post (some (.int (zI (-4)))) σ) : zV G shC mX5_put 0 (zini 7 [.ref (zad G 6), .int (zI k), .int (zI v), .int (zI c), .ref (zad G (18 + t)), .int (zI p)]) [] σ Post := by
  refine z_rg (fun hR => ?_)
  refine z_lv (lv' := [some (.ref (zad G 6)), some (.int (zI k)), some (.int (zI v)), some (.int (zI c)), some (.ref (zad G (18 + t))), some (.int (zI p)), none]) rfl ?_
  refine z_aload_0 dX5_put_0 ?_
  refine z_getI (j := 1) dX5_put_1 zf_X5_15 rfl rfl ?_
  have w1 : zR (σ.1 6 1) := hR.1 6 1
  refine z_bipush 6 dX5_put_4 (by decide +kernel) ?_
  refine z_imul dX5_put_6 ?_
  refine z_istore_6 dX5_put_7 (Nat.le_of_ble_eq_true rfl) rfl ?_
  refine z_aload_0 dX5_put_9 ?_
  refine z_callV mX5_isFull [] dX5_put_10 zk_X5_isFull zl_X5_19 ⟨Nat.le_of_ble_eq_true rfl, Nat.le_of_ble_eq_true rfl⟩ rfl rfl (Nat.le_of_ble_eq_true rfl) (Nat.le_of_ble_eq_true rfl) ?_
  refine M_X5_isFull (fun i1 => ?_) (fun i1 => ?_)
  · refine z_b1 ?_
    refine z_if_ne (tgt := 34) dX5_put_13 (by decide) ⟨by decide, by decide⟩ (fun c13 => ?_) (fun c13 => by exfalso; omega)
    refine z_bipush (-4) dX5_put_34 (by decide +kernel) ?_
    refine z_iret dX5_put_36 rfl ?_
    exact h0 (by omega)
  · refine z_b1 ?_
    refine z_if_ne (tgt := 34) dX5_put_13 (by decide) ⟨by decide, by decide⟩ (fun c13 => by exfalso; omega) (fun c13 => ?_)
    refine z_iload_6 dX5_put_16 ?_
    refine z_if_lt (tgt := 34) dX5_put_18 (by decide) (by omega) (fun c18 => by exfalso; omega) (fun c18 => ?_)
    refine z_iload_6 dX5_put_21 ?_
    refine z_bipush 6 dX5_put_23 (by decide +kernel) ?_
    refine z_iadd dX5_put_25 ?_
    refine z_aload_0 dX5_put_26 ?_
    refine z_getR (j := 0) dX5_put_27 zf_X5_9 rfl rfl ?_
    refine z_alenI dX5_put_30 rfl ?_
    refine z_top (b := 3600) rfl ?_
    refine z_icmp_le (tgt := 37) dX5_put_31 (by decide) (by omega) ⟨by decide, by decide⟩ (fun c31 => ?_) (fun c31 => by exfalso; omega)
    refine z_aload_0 dX5_put_37 ?_
    refine z_getR (j := 0) dX5_put_38 zf_X5_9 rfl rfl ?_
    refine z_iload_6 dX5_put_41 ?_
    refine z_iload_1 dX5_put_43 ?_
    refine z_iast dX5_put_44 rfl (by decide) (by omega) (by omega) (by omega) ?_
    refine z_aload_0 dX5_put_45 ?_
    refine z_getR (j := 0) dX5_put_46 zf_X5_9 rfl rfl ?_
    refine z_iload_6 dX5_put_49 ?_
    refine z_iconst 1 dX5_put_51 rfl ?_
    refine z_iadd dX5_put_52 ?_
    refine z_iload_2 dX5_put_53 ?_
    refine z_iast dX5_put_54 rfl (by decide) (by omega) (by omega) (by omega) ?_
    refine z_aload_0 dX5_put_55 ?_
    refine z_getR (j := 0) dX5_put_56 zf_X5_9 rfl rfl ?_
    refine z_iload_6 dX5_put_59 ?_
    refine z_iconst 2 dX5_put_61 rfl ?_
    refine z_iadd dX5_put_62 ?_
    refine z_iload_3 dX5_put_63 ?_
    refine z_iast dX5_put_64 rfl (by decide) (by omega) (by omega) (by omega) ?_
    refine z_aload_0 dX5_put_65 ?_
    refine z_getR (j := 0) dX5_put_66 zf_X5_9 rfl rfl ?_
    refine z_iload_6 dX5_put_69 ?_
    refine z_iconst 3 dX5_put_71 rfl ?_
    refine z_iadd dX5_put_72 ?_
    refine z_aload_4 dX5_put_73 ?_
    refine z_getI (j := 1) dX5_put_75 zf_X5_23 (shC_lv ht) rfl ?_
    refine z_top (b := σ.1 (18 + t) 1) (zsA_F.trans (zsA_F.trans zsA_F)) ?_
    have w2 : zR (σ.1 (18 + t) 1) := hR.1 (18 + t) 1
    refine z_iast dX5_put_78 rfl (by decide) (by omega) (by omega) (by omega) ?_
    refine z_aload_0 dX5_put_79 ?_
    refine z_getR (j := 0) dX5_put_80 zf_X5_9 rfl rfl ?_
    refine z_iload_6 dX5_put_83 ?_
    refine z_iconst 4 dX5_put_85 rfl ?_
    refine z_iadd dX5_put_86 ?_
    refine z_aload_4 dX5_put_87 ?_
    refine z_getI (j := 2) dX5_put_89 zf_X5_28 (shC_lv ht) rfl ?_
    refine z_top (b := σ.1 (18 + t) 2) (zsA_F.trans (zsA_F.trans (zsA_F.trans zsA_F))) ?_
    have w3 : zR (σ.1 (18 + t) 2) := hR.1 (18 + t) 2
    refine z_iconst 1 dX5_put_92 rfl ?_
    refine z_isub dX5_put_93 ?_
    refine z_iast dX5_put_94 rfl (by decide) (by omega) (by omega) (by omega) ?_
    refine z_aload_0 dX5_put_95 ?_
    refine z_getR (j := 0) dX5_put_96 zf_X5_9 rfl rfl ?_
    refine z_iload_6 dX5_put_99 ?_
    refine z_iconst 5 dX5_put_101 rfl ?_
    refine z_iadd dX5_put_102 ?_
    refine z_iload_5 dX5_put_103 ?_
    refine z_iast dX5_put_105 rfl (by decide) (by omega) (by omega) (by omega) ?_
    refine z_aload_0 dX5_put_106 ?_
    refine z_dup dX5_put_107 rfl ?_
    refine z_getI (j := 1) dX5_put_108 zf_X5_15 rfl rfl ?_
    refine z_top (b := σ.1 6 1) (zsA_F.trans (zsA_F.trans (zsA_F.trans (zsA_F.trans (zsA_F.trans zsA_F))))) ?_
    have w4 : zR (σ.1 6 1) := hR.1 6 1
    refine z_iconst 1 dX5_put_111 rfl ?_
    refine z_iadd dX5_put_112 ?_
    refine z_putI (j := 1) dX5_put_113 zp_X5_15 rfl rfl (by omega) ?_
    refine z_aload_0 dX5_put_116 ?_
    refine z_getI (j := 1) dX5_put_117 zf_X5_15 rfl rfl ?_
    refine z_top (b := ((σ.1 6 1) + 1)) zsF_eq ?_
    refine z_iconst 1 dX5_put_120 rfl ?_
    refine z_isub dX5_put_121 ?_
    refine z_iret dX5_put_122 rfl ?_
    exact zPe (h1 (by omega)) (by omega)

set_option maxRecDepth 100000 in
theorem M_X4_report {G : zG} {σ : zSt} {Post : Option Value → zSt → Prop} (a b c : Int) (ha : zR a) (hb : zR b) (hc : zR c) (hs0 : 0 ≤ σ.1 7 1) (hs : σ.1 7 1 < 2147483647) (h1 : σ.1 7 1 < 100 → Post none (zsF (zrp σ 17 (σ.1 7 1 * 3) a b c) 7 1 (σ.1 7 1 + 1))) (h0 : 100 ≤ σ.1 7 1 → Post none (zsF σ 7 1 (σ.1 7 1 + 1))) : zV G shC mX4_report 0 (zini 5 [.ref (zad G 7), .int (zI a), .int (zI b), .int (zI c)]) [] σ Post := by
  refine z_rg (fun hR => ?_)
  refine z_lv (lv' := [some (.ref (zad G 7)), some (.int (zI a)), some (.int (zI b)), some (.int (zI c)), none]) rfl ?_
  refine z_aload_0 dX4_report_0 ?_
  refine z_getI (j := 1) dX4_report_1 zf_X4_15 rfl rfl ?_
  have w1 : zR (σ.1 7 1) := hR.1 7 1
  refine z_iconst 3 dX4_report_4 rfl ?_
  refine z_imul dX4_report_5 ?_
  refine z_istore_4 dX4_report_6 (Nat.le_of_ble_eq_true rfl) rfl ?_
  refine z_aload_0 dX4_report_8 ?_
  refine z_getI (j := 1) dX4_report_9 zf_X4_15 rfl rfl ?_
  have w2 : zR (σ.1 7 1) := hR.1 7 1
  refine z_if_lt (tgt := 64) dX4_report_12 (by decide) (by omega) (fun c12 => by exfalso; omega) (fun c12 => ?_)
  refine z_aload_0 dX4_report_15 ?_
  refine z_getI (j := 1) dX4_report_16 zf_X4_15 rfl rfl ?_
  have w3 : zR (σ.1 7 1) := hR.1 7 1
  refine z_bipush 100 dX4_report_19 (by decide +kernel) ?_
  refine z_icmp_ge (tgt := 64) dX4_report_21 (by decide) (by omega) ⟨by decide, by decide⟩ (fun c21 => ?_) (fun c21 => ?_)
  · refine z_aload_0 dX4_report_64 ?_
    refine z_dup dX4_report_65 rfl ?_
    refine z_getI (j := 1) dX4_report_66 zf_X4_15 rfl rfl ?_
    have w4 : zR (σ.1 7 1) := hR.1 7 1
    refine z_iconst 1 dX4_report_69 rfl ?_
    refine z_iadd dX4_report_70 ?_
    refine z_putI (j := 1) dX4_report_71 zp_X4_15 rfl rfl (by omega) ?_
    refine z_vret dX4_report_74 rfl ?_
    first | exact h1 (by omega) | exact h0 (by omega)
  · refine z_iload_4 dX4_report_24 ?_
    refine z_iconst 3 dX4_report_26 rfl ?_
    refine z_iadd dX4_report_27 ?_
    refine z_aload_0 dX4_report_28 ?_
    refine z_getR (j := 0) dX4_report_29 zf_X4_9 rfl rfl ?_
    refine z_alenI dX4_report_32 rfl ?_
    refine z_top (b := 300) rfl ?_
    refine z_icmp_gt (tgt := 64) dX4_report_33 (by decide) (by omega) ⟨by decide, by decide⟩ (fun c33 => by exfalso; omega) (fun c33 => ?_)
    refine z_aload_0 dX4_report_36 ?_
    refine z_getR (j := 0) dX4_report_37 zf_X4_9 rfl rfl ?_
    refine z_iload_4 dX4_report_40 ?_
    refine z_iload_1 dX4_report_42 ?_
    refine z_iast dX4_report_43 rfl (by decide) (by omega) (by omega) (by omega) ?_
    refine z_aload_0 dX4_report_44 ?_
    refine z_getR (j := 0) dX4_report_45 zf_X4_9 rfl rfl ?_
    refine z_iload_4 dX4_report_48 ?_
    refine z_iconst 1 dX4_report_50 rfl ?_
    refine z_iadd dX4_report_51 ?_
    refine z_iload_2 dX4_report_52 ?_
    refine z_iast dX4_report_53 rfl (by decide) (by omega) (by omega) (by omega) ?_
    refine z_aload_0 dX4_report_54 ?_
    refine z_getR (j := 0) dX4_report_55 zf_X4_9 rfl rfl ?_
    refine z_iload_4 dX4_report_58 ?_
    refine z_iconst 2 dX4_report_60 rfl ?_
    refine z_iadd dX4_report_61 ?_
    refine z_iload_3 dX4_report_62 ?_
    refine z_iast dX4_report_63 rfl (by decide) (by omega) (by omega) (by omega) ?_
    refine z_aload_0 dX4_report_64 ?_
    refine z_dup dX4_report_65 rfl ?_
    refine z_getI (j := 1) dX4_report_66 zf_X4_15 rfl rfl ?_
    refine z_top (b := σ.1 7 1) (zsA_F.trans (zsA_F.trans zsA_F)) ?_
    have w5 : zR (σ.1 7 1) := hR.1 7 1
    refine z_iconst 1 dX4_report_69 rfl ?_
    refine z_iadd dX4_report_70 ?_
    refine z_putI (j := 1) dX4_report_71 zp_X4_15 rfl rfl (by omega) ?_
    refine z_vret dX4_report_74 rfl ?_
    first | exact h1 (by omega) | exact h0 (by omega)

set_option maxRecDepth 100000 in
theorem M_X4_part {G : zG} {σ : zSt} {Post : Option Value → zSt → Prop} (a k : Int) (ha : zR a) (hk : zR k) (hs0 : 0 ≤ σ.1 7 1) (h1 : 0 ≤ a → a < σ.1 7 1 → a < 100 → 0 ≤ k → k < 3 → Post (some (.int (zI (σ.2 17 (a * 3 + k))))) σ) (h0 : ¬ (0 ≤ a ∧ a < σ.1 7 1 ∧ a < 100 ∧ 0 ≤ k ∧ k < 3) → Post (some (.int (zI (-1)))) σ) : zV G shC mX4_part 0 (zini 4 [.ref (zad G 7), .int (zI a), .int (zI k)]) [] σ Post := by
  refine z_rg (fun hR => ?_)
  refine z_lv (lv' := [some (.ref (zad G 7)), some (.int (zI a)), some (.int (zI k)), none]) rfl ?_
  refine z_iload_1 dX4_part_0 ?_
  refine z_if_lt (tgt := 27) dX4_part_1 (by decide) (by omega) (fun c1 => ?_) (fun c1 => ?_)
  · refine z_iconst (-1) dX4_part_27 rfl ?_
    refine z_iret dX4_part_28 rfl ?_
    first | exact h1 (by omega) (by omega) (by omega) (by omega) (by omega) | exact h0 (by omega)
  · refine z_iload_1 dX4_part_4 ?_
    refine z_aload_0 dX4_part_5 ?_
    refine z_getI (j := 1) dX4_part_6 zf_X4_15 rfl rfl ?_
    have w1 : zR (σ.1 7 1) := hR.1 7 1
    refine z_icmp_ge (tgt := 27) dX4_part_9 (by decide) (by omega) (by omega) (fun c9 => ?_) (fun c9 => ?_)
    · refine z_iconst (-1) dX4_part_27 rfl ?_
      refine z_iret dX4_part_28 rfl ?_
      first | exact h1 (by omega) (by omega) (by omega) (by omega) (by omega) | exact h0 (by omega)
    · refine z_iload_1 dX4_part_12 ?_
      refine z_bipush 100 dX4_part_13 (by decide +kernel) ?_
      refine z_icmp_ge (tgt := 27) dX4_part_15 (by decide) (by omega) ⟨by decide, by decide⟩ (fun c15 => ?_) (fun c15 => ?_)
      · refine z_iconst (-1) dX4_part_27 rfl ?_
        refine z_iret dX4_part_28 rfl ?_
        first | exact h1 (by omega) (by omega) (by omega) (by omega) (by omega) | exact h0 (by omega)
      · refine z_iload_2 dX4_part_18 ?_
        refine z_if_lt (tgt := 27) dX4_part_19 (by decide) (by omega) (fun c19 => ?_) (fun c19 => ?_)
        · refine z_iconst (-1) dX4_part_27 rfl ?_
          refine z_iret dX4_part_28 rfl ?_
          first | exact h1 (by omega) (by omega) (by omega) (by omega) (by omega) | exact h0 (by omega)
        · refine z_iload_2 dX4_part_22 ?_
          refine z_iconst 3 dX4_part_23 rfl ?_
          refine z_icmp_lt (tgt := 29) dX4_part_24 (by decide) (by omega) ⟨by decide, by decide⟩ (fun c24 => ?_) (fun c24 => ?_)
          · refine z_iload_1 dX4_part_29 ?_
            refine z_iconst 3 dX4_part_30 rfl ?_
            refine z_imul dX4_part_31 ?_
            refine z_iload_2 dX4_part_32 ?_
            refine z_iadd dX4_part_33 ?_
            refine z_istore_3 dX4_part_34 (Nat.le_of_ble_eq_true rfl) rfl ?_
            refine z_iload_3 dX4_part_35 ?_
            refine z_aload_0 dX4_part_36 ?_
            refine z_getR (j := 0) dX4_part_37 zf_X4_9 rfl rfl ?_
            refine z_alenI dX4_part_40 rfl ?_
            refine z_top (b := 300) rfl ?_
            refine z_icmp_ge (tgt := 53) dX4_part_41 (by decide) (by omega) ⟨by decide, by decide⟩ (fun c41 => by exfalso; omega) (fun c41 => ?_)
            refine z_aload_0 dX4_part_44 ?_
            refine z_getR (j := 0) dX4_part_45 zf_X4_9 rfl rfl ?_
            refine z_iload_3 dX4_part_48 ?_
            refine z_iald dX4_part_49 rfl (by decide) (by omega) (by omega) ?_
            have w2 : zR (σ.2 17 ((a * 3) + k)) := hR.2 17 ((a * 3) + k)
            refine z_goto (tgt := 54) dX4_part_50 (by decide) ?_
            refine z_iret dX4_part_54 rfl ?_
            first | exact h1 (by omega) (by omega) (by omega) (by omega) (by omega) | exact h0 (by omega)
          · refine z_iconst (-1) dX4_part_27 rfl ?_
            refine z_iret dX4_part_28 rfl ?_
            first | exact h1 (by omega) (by omega) (by omega) (by omega) (by omega) | exact h0 (by omega)

set_option maxRecDepth 100000 in
theorem M_X1_start {G : zG} {σ : zSt} {Post : Option Value → zSt → Prop} (t : Nat) (ht : t < 6) (f : Int) (hf : zR f) (h : Post none (zsF (zsF (zsF (zsF σ (18 + t) 1 f) (18 + t) 2 0) (18 + t) 3 0) (18 + t) 4 0)) : zV G shC mX1_start 0 (zini 2 [.ref (zad G (18 + t)), .int (zI f)]) [] σ Post := by
  refine z_rg (fun hR => ?_)
  refine z_lv (lv' := [some (.ref (zad G (18 + t))), some (.int (zI f))]) rfl ?_
  refine z_aload_0 dX1_start_0 ?_
  refine z_iload_1 dX1_start_1 ?_
  refine z_putI (j := 1) dX1_start_2 zp_X1_15 (shC_lv ht) rfl (by omega) ?_
  refine z_aload_0 dX1_start_5 ?_
  refine z_iconst 0 dX1_start_6 rfl ?_
  refine z_putI (j := 2) dX1_start_7 zp_X1_19 (shC_lv ht) rfl ⟨by decide, by decide⟩ ?_
  refine z_aload_0 dX1_start_10 ?_
  refine z_iconst 0 dX1_start_11 rfl ?_
  refine z_putZ (j := 3) dX1_start_12 zp_X1_22 (shC_lv ht) rfl (by omega) ?_
  refine z_aload_0 dX1_start_15 ?_
  refine z_iconst 0 dX1_start_16 rfl ?_
  refine z_putZ (j := 4) dX1_start_17 zp_X1_26 (shC_lv ht) rfl (by omega) ?_
  refine z_vret dX1_start_20 rfl ?_
  exact h

set_option maxRecDepth 100000 in
theorem M_X6_topLevel {G : zG} {σ : zSt} {Post : Option Value → zSt → Prop} (hl0 : 0 ≤ σ.1 0 7) (hl : σ.1 0 7 ≤ 6) (h1 : ∀ t : Nat, t < 6 → σ.1 0 7 = (t : Int) + 1 → Post (some (.ref (zad G (18 + t)))) σ) (h0 : σ.1 0 7 = 0 → Post (some .null) σ) : zV G shC mX6_topLevel 0 (zini 1 [.ref (zad G 0)]) [] σ Post := by
  refine z_rg (fun hR => ?_)
  refine z_lv (lv' := [some (.ref (zad G 0))]) rfl ?_
  obtain ⟨t, ht, hte⟩ : ∃ t : Nat, t < 6 ∧ (0 < σ.1 0 7 → σ.1 0 7 = (t : Int) + 1) := ⟨(σ.1 0 7 - 1).toNat, by omega, fun _ => by omega⟩
  refine z_aload_0 dX6_topLevel_0 ?_
  refine z_getI (j := 7) dX6_topLevel_1 zf_X6_95 rfl rfl ?_
  have w1 : zR (σ.1 0 7) := hR.1 0 7
  refine z_if_le (tgt := 33) dX6_topLevel_4 (by decide) (by omega) (fun c4 => ?_) (fun c4 => ?_)
  · refine z_null dX6_topLevel_33 ?_
    refine z_aret dX6_topLevel_34 rfl (Or.inl rfl) ?_
    exact h0 (by omega)
  · refine z_aload_0 dX6_topLevel_7 ?_
    refine z_getI (j := 7) dX6_topLevel_8 zf_X6_95 rfl rfl ?_
    have w2 : zR (σ.1 0 7) := hR.1 0 7
    refine z_aload_0 dX6_topLevel_11 ?_
    refine z_getR (j := 3) dX6_topLevel_12 zf_X6_29 rfl rfl ?_
    refine z_alenR dX6_topLevel_15 rfl ?_
    refine z_top (b := 6) rfl ?_
    refine z_icmp_gt (tgt := 33) dX6_topLevel_16 (by decide) (by omega) ⟨by decide, by decide⟩ (fun c16 => by exfalso; omega) (fun c16 => ?_)
    refine z_aload_0 dX6_topLevel_19 ?_
    refine z_getR (j := 3) dX6_topLevel_20 zf_X6_29 rfl rfl ?_
    refine z_aload_0 dX6_topLevel_23 ?_
    refine z_getI (j := 7) dX6_topLevel_24 zf_X6_95 rfl rfl ?_
    have w3 : zR (σ.1 0 7) := hR.1 0 7
    refine z_iconst 1 dX6_topLevel_27 rfl ?_
    refine z_isub dX6_topLevel_28 ?_
    refine z_aald dX6_topLevel_29 rfl (by decide) (by omega) (shC_lr ht (by omega)) ?_
    refine z_goto (tgt := 34) dX6_topLevel_30 (by decide) ?_
    refine z_aret dX6_topLevel_34 rfl (Or.inr ⟨_, rfl⟩) ?_
    exact h1 t ht (by omega)

set_option maxRecDepth 100000 in
theorem M_X6_refusal {G : zG} {σ : zSt} {Post : Option Value → zSt → Prop} (hl0 : 0 ≤ σ.1 0 7) (h3 : σ.1 0 7 = 0 → Post (some (.int (zI (-3)))) σ) (h4 : 0 < σ.1 0 7 → 600 ≤ σ.1 6 1 → Post (some (.int (zI (-4)))) σ) (h0 : 0 < σ.1 0 7 → σ.1 6 1 < 600 → Post (some (.int (zI 0))) σ) : zV G shC mX6_refusalAtOnce 0 (zini 1 [.ref (zad G 0)]) [] σ Post := by
  refine z_rg (fun hR => ?_)
  refine z_lv (lv' := [some (.ref (zad G 0))]) rfl ?_
  refine z_aload_0 dX6_refusalAtOnce_0 ?_
  refine z_getI (j := 7) dX6_refusalAtOnce_1 zf_X6_95 rfl rfl ?_
  have w1 : zR (σ.1 0 7) := hR.1 0 7
  refine z_if_gt (tgt := 10) dX6_refusalAtOnce_4 (by decide) (by omega) (fun c4 => ?_) (fun c4 => ?_)
  · refine z_aload_0 dX6_refusalAtOnce_10 ?_
    refine z_getR (j := 5) dX6_refusalAtOnce_11 zf_X6_44 rfl rfl ?_
    refine z_callV mX5_isFull [] dX6_refusalAtOnce_14 zk_X5_isFull zl_X6_185 ⟨Nat.le_of_ble_eq_true rfl, Nat.le_of_ble_eq_true rfl⟩ rfl rfl (Nat.le_of_ble_eq_true rfl) (Nat.le_of_ble_eq_true rfl) ?_
    refine M_X5_isFull (fun i1 => ?_) (fun i1 => ?_)
    · refine z_b1 ?_
      refine z_if_eq (tgt := 25) dX6_refusalAtOnce_17 (by decide) ⟨by decide, by decide⟩ (fun c17 => by exfalso; omega) (fun c17 => ?_)
      refine z_bipush (-4) dX6_refusalAtOnce_20 (by decide +kernel) ?_
      refine z_goto (tgt := 26) dX6_refusalAtOnce_22 (by decide) ?_
      refine z_iret dX6_refusalAtOnce_26 rfl ?_
      exact h4 (by omega) (by omega)
    · refine z_b1 ?_
      refine z_if_eq (tgt := 25) dX6_refusalAtOnce_17 (by decide) ⟨by decide, by decide⟩ (fun c17 => ?_) (fun c17 => by exfalso; omega)
      refine z_iconst 0 dX6_refusalAtOnce_25 rfl ?_
      refine z_iret dX6_refusalAtOnce_26 rfl ?_
      exact h0 (by omega) (by omega)
  · refine z_bipush (-3) dX6_refusalAtOnce_7 (by decide +kernel) ?_
    refine z_iret dX6_refusalAtOnce_9 rfl ?_
    exact h3 (by omega)

set_option maxRecDepth 100000 in
theorem M_X6_signsLeft {G : zG} {σ : zSt} {Post : Option Value → zSt → Prop} (hl0 : 0 ≤ σ.1 0 7) (hl : σ.1 0 7 ≤ 6) (h0 : σ.1 0 7 = 0 → Post (some (.int (zI 0))) σ) (h1 : ∀ t : Nat, t < 6 → σ.1 0 7 = (t : Int) + 1 → σ.1 (18 + t) 4 = 0 → Post (some (.int (zI 0))) σ) (h2 : ∀ t : Nat, t < 6 → σ.1 0 7 = (t : Int) + 1 → σ.1 (18 + t) 4 ≠ 0 → σ.1 (18 + t) 6 < σ.1 (18 + t) 5 → Post (some (.int (zI (σ.1 (18 + t) 5 - σ.1 (18 + t) 6)))) σ) (h3 : ∀ t : Nat, t < 6 → σ.1 0 7 = (t : Int) + 1 → σ.1 (18 + t) 4 ≠ 0 → σ.1 (18 + t) 5 ≤ σ.1 (18 + t) 6 → Post (some (.int (zI 0))) σ) : zV G shC mX6_signsLeft 0 (zini 2 [.ref (zad G 0)]) [] σ Post := by
  refine z_rg (fun hR => ?_)
  refine z_lv (lv' := [some (.ref (zad G 0)), none]) rfl ?_
  refine z_aload_0 dX6_signsLeft_0 ?_
  refine z_callV mX6_topLevel [] dX6_signsLeft_1 zk_X6_topLevel zl_X6_102 ⟨Nat.le_of_ble_eq_true rfl, Nat.le_of_ble_eq_true rfl⟩ rfl rfl (Nat.le_of_ble_eq_true rfl) (Nat.le_of_ble_eq_true rfl) ?_
  refine M_X6_topLevel (by omega) (by omega) (fun t ht hte => ?_) (fun hte => ?_)
  · refine z_b1 ?_
    refine z_astore_1 dX6_signsLeft_4 (Nat.le_of_ble_eq_true rfl) rfl ?_
    refine z_aload_1 dX6_signsLeft_5 ?_
    refine z_ifnull dX6_signsLeft_6 ?_
    refine z_aload_1 dX6_signsLeft_9 ?_
    refine z_getI (j := 4) dX6_signsLeft_10 zf_X6_133 (shC_lv ht) rfl ?_
    have w1 : zR (σ.1 (18 + t) 4) := hR.1 (18 + t) 4
    refine z_if_eq (tgt := 23) dX6_signsLeft_13 (by decide) (by omega) (fun c13 => ?_) (fun c13 => ?_)
    · refine z_iconst 0 dX6_signsLeft_23 rfl ?_
      refine z_iret dX6_signsLeft_24 rfl ?_
      first | exact h0 hte | exact h3 t ht hte (by omega) (by omega) | exact h1 t ht hte (by omega)
    · refine z_aload_1 dX6_signsLeft_16 ?_
      refine z_callV mX1_left [] dX6_signsLeft_17 zk_X1_left zl_X6_117 ⟨Nat.le_of_ble_eq_true rfl, Nat.le_of_ble_eq_true rfl⟩ (shC_lv ht) rfl (Nat.le_of_ble_eq_true rfl) (Nat.le_of_ble_eq_true rfl) ?_
      refine M_X1_left t ht (fun i1 => ?_) (fun i1 => ?_)
      · refine z_b1 ?_
        refine z_goto (tgt := 24) dX6_signsLeft_20 (by decide) ?_
        refine z_iret dX6_signsLeft_24 rfl ?_
        exact h2 t ht hte (by omega) (by omega)
      · refine z_b1 ?_
        refine z_goto (tgt := 24) dX6_signsLeft_20 (by decide) ?_
        refine z_iret dX6_signsLeft_24 rfl ?_
        first | exact h0 hte | exact h3 t ht hte (by omega) (by omega) | exact h1 t ht hte (by omega)
  · refine z_b1 ?_
    refine z_astoreNN (i := 1) dX6_signsLeft_4 rfl (by simp) (Nat.le_of_ble_eq_true rfl) (zpvS (i := 0) rfl rfl) ?_
    refine z_lv (lv' := [some (.ref (zad G 0)), some (.null)]) rfl ?_
    refine z_aloadNN (i := 1) dX6_signsLeft_5 rfl rfl ?_
    refine z_ifnullN (tgt := 23) dX6_signsLeft_6 (by decide) ?_
    refine z_iconst 0 dX6_signsLeft_23 rfl ?_
    refine z_iret dX6_signsLeft_24 rfl ?_
    first | exact h0 hte | exact h3 t ht hte (by omega) (by omega) | exact h1 t ht hte (by omega)

set_option maxRecDepth 100000 in
theorem M_X6_drop {G : zG} {σ : zSt} {Post : Option Value → zSt → Prop} (t : Nat) (ht : t < 6) (h : Post (some (.int (zI (-6)))) (zsF σ (18 + t) 4 0)) : zV G shC mX6_dropUsedLine 0 (zini 1 [.ref (zad G (18 + t))]) [] σ Post := by
  refine z_rg (fun hR => ?_)
  refine z_lv (lv' := [some (.ref (zad G (18 + t)))]) rfl ?_
  refine z_aload_0 dX6_dropUsedLine_0 ?_
  refine z_iconst 0 dX6_dropUsedLine_1 rfl ?_
  refine z_putZ (j := 4) dX6_dropUsedLine_2 zp_X6_133 (shC_lv ht) rfl (by omega) ?_
  refine z_bipush (-6) dX6_dropUsedLine_5 (by decide +kernel) ?_
  refine z_iret dX6_dropUsedLine_7 rfl ?_
  exact h

set_option maxRecDepth 100000 in
theorem L_X6_tok {G : zG} {σ : zSt} {Post : Option Value → zSt → Prop} (hR : zRg σ) (hs : σ.1 6 1 ≤ 600) (hsz : σ.1 5 3 ≤ 150) (hv : ∀ i, 0 ≤ i → i < σ.1 6 1 → σ.2 16 (i * 6) = 1 → 0 ≤ σ.2 16 (i * 6 + 1) ∧ σ.2 16 (i * 6 + 1) < σ.1 5 3) (h : Post (some (.int (zI 1))) σ) : ∀ (m : Nat) (i : Int) (hi0 : 0 ≤ i) (hm : i + m = σ.1 6 1), zV G shC mX6_tokensHaveNames 2 [some (.ref (zad G 0)), some (.int (zI i))] [] σ Post := by
  intro m
  induction m with
  | zero =>
    intro i hi0 hm
    refine z_iload_1 dX6_tokensHaveNames_2 ?_
    refine z_aload_0 dX6_tokensHaveNames_3 ?_
    refine z_getR (j := 5) dX6_tokensHaveNames_4 zf_X6_44 rfl rfl ?_
    refine z_getI (j := 1) dX6_tokensHaveNames_7 zf_X6_164 rfl rfl ?_
    have w1 : zR (σ.1 6 1) := hR.1 6 1
    refine z_icmp_ge (tgt := 53) dX6_tokensHaveNames_10 (by decide) (by omega) (by omega) (fun c10 => ?_) (fun c10 => by exfalso; omega)
    refine z_iconst 1 dX6_tokensHaveNames_53 rfl ?_
    refine z_zret dX6_tokensHaveNames_54 rfl (Or.inr rfl) ?_
    exact h
  | succ m ih =>
    intro i hi0 hm
    have hv1 : σ.2 16 (i * 6 + 0) = 1 → 0 ≤ σ.2 16 (i * 6 + 1) ∧ σ.2 16 (i * 6 + 1) < σ.1 5 3 := by rw [Int.add_zero]; exact hv i hi0 (by omega)
    refine z_iload_1 dX6_tokensHaveNames_2 ?_
    refine z_aload_0 dX6_tokensHaveNames_3 ?_
    refine z_getR (j := 5) dX6_tokensHaveNames_4 zf_X6_44 rfl rfl ?_
    refine z_getI (j := 1) dX6_tokensHaveNames_7 zf_X6_164 rfl rfl ?_
    have w1 : zR (σ.1 6 1) := hR.1 6 1
    refine z_icmp_ge (tgt := 53) dX6_tokensHaveNames_10 (by decide) (by omega) (by omega) (fun c10 => by exfalso; omega) (fun c10 => ?_)
    refine z_aload_0 dX6_tokensHaveNames_13 ?_
    refine z_getR (j := 5) dX6_tokensHaveNames_14 zf_X6_44 rfl rfl ?_
    refine z_iload_1 dX6_tokensHaveNames_17 ?_
    refine z_iconst 0 dX6_tokensHaveNames_18 rfl ?_
    refine z_callV mX5_part [.int (zI i), .int (zI 0)] dX6_tokensHaveNames_19 zk_X5_part zl_X6_150 ⟨Nat.le_of_ble_eq_true rfl, Nat.le_of_ble_eq_true rfl⟩ rfl rfl (Nat.le_of_ble_eq_true rfl) (Nat.le_of_ble_eq_true rfl) ?_
    refine M_X5_part i 0 (by omega) (by omega) (by omega) (by omega) (by omega) ?_
    refine z_b1 ?_
    have w2 : zR (σ.2 16 ((i * 6) + 0)) := hR.2 16 ((i * 6) + 0)
    refine z_iconst 1 dX6_tokensHaveNames_22 rfl ?_
    refine z_icmp_ne (tgt := 47) dX6_tokensHaveNames_23 (by decide) (by omega) ⟨by decide, by decide⟩ (fun c23 => ?_) (fun c23 => ?_)
    · refine z_iinc_1 dX6_tokensHaveNames_47 (Nat.le_of_ble_eq_true rfl) rfl ?_
      refine z_goto (tgt := 2) dX6_tokensHaveNames_50 (by decide) ?_
      exact ih (i + 1) (by omega) (by omega)
    · refine z_aload_0 dX6_tokensHaveNames_26 ?_
      refine z_getR (j := 4) dX6_tokensHaveNames_27 zf_X6_37 rfl rfl ?_
      refine z_aload_0 dX6_tokensHaveNames_30 ?_
      refine z_getR (j := 5) dX6_tokensHaveNames_31 zf_X6_44 rfl rfl ?_
      refine z_iload_1 dX6_tokensHaveNames_34 ?_
      refine z_iconst 1 dX6_tokensHaveNames_35 rfl ?_
      refine z_callV mX5_part [.int (zI i), .int (zI 1)] dX6_tokensHaveNames_36 zk_X5_part zl_X6_150 ⟨Nat.le_of_ble_eq_true rfl, Nat.le_of_ble_eq_true rfl⟩ rfl rfl (Nat.le_of_ble_eq_true rfl) (Nat.le_of_ble_eq_true rfl) ?_
      refine M_X5_part i 1 (by omega) (by omega) (by omega) (by omega) (by omega) ?_
      refine z_b1 ?_
      have w3 : zR (σ.2 16 ((i * 6) + 1)) := hR.2 16 ((i * 6) + 1)
      refine z_callV mX3_has [.int (zI (σ.2 16 ((i * 6) + 1)))] dX6_tokensHaveNames_39 zk_X3_has zl_X6_184 ⟨Nat.le_of_ble_eq_true rfl, Nat.le_of_ble_eq_true rfl⟩ rfl rfl (Nat.le_of_ble_eq_true rfl) (Nat.le_of_ble_eq_true rfl) ?_
      refine M_X3_has (σ.2 16 ((i * 6) + 1)) (by omega) (by omega) (fun i1 i2 => ?_) (fun i1 => by exfalso; omega)
      refine z_b1 ?_
      refine z_if_ne (tgt := 47) dX6_tokensHaveNames_42 (by decide) ⟨by decide, by decide⟩ (fun c42 => ?_) (fun c42 => by exfalso; omega)
      refine z_iinc_1 dX6_tokensHaveNames_47 (Nat.le_of_ble_eq_true rfl) rfl ?_
      refine z_goto (tgt := 2) dX6_tokensHaveNames_50 (by decide) ?_
      exact ih (i + 1) (by omega) (by omega)

set_option maxRecDepth 100000 in
theorem M_X6_tok {G : zG} {σ : zSt} {Post : Option Value → zSt → Prop} (hs0 : 0 ≤ σ.1 6 1) (hs : σ.1 6 1 ≤ 600) (hsz : σ.1 5 3 ≤ 150) (hv : ∀ i, 0 ≤ i → i < σ.1 6 1 → σ.2 16 (i * 6) = 1 → 0 ≤ σ.2 16 (i * 6 + 1) ∧ σ.2 16 (i * 6 + 1) < σ.1 5 3) (h : Post (some (.int (zI 1))) σ) : zV G shC mX6_tokensHaveNames 0 (zini 2 [.ref (zad G 0)]) [] σ Post := by
  refine z_rg (fun hR => ?_)
  refine z_lv (lv' := [some (.ref (zad G 0)), none]) rfl ?_
  refine z_iconst 0 dX6_tokensHaveNames_0 rfl ?_
  refine z_istore_1 dX6_tokensHaveNames_1 (Nat.le_of_ble_eq_true rfl) rfl ?_
  exact L_X6_tok hR hs hsz hv h (σ.1 6 1).toNat 0 (by omega) (by omega)

set_option maxRecDepth 100000 in
theorem M_X6_check {G : zG} {σ : zSt} {Post : Option Value → zSt → Prop} (hsz0 : 0 ≤ σ.1 5 3) (hsz : σ.1 5 3 ≤ 150) (hln : ∀ q, 0 ≤ σ.2 14 q ∧ σ.2 14 q ≤ 40) (hd : ∀ a b, 0 ≤ b → b < a → a < σ.1 5 3 → ∃ w, 0 ≤ w ∧ w ≤ 40 ∧ zns (σ.2 13) (σ.2 14) (σ.1 5 3) a w ≠ zns (σ.2 13) (σ.2 14) (σ.1 5 3) b w) (hs0 : 0 ≤ σ.1 6 1) (hs : σ.1 6 1 ≤ 600) (hv : ∀ i, 0 ≤ i → i < σ.1 6 1 → σ.2 16 (i * 6) = 1 → 0 ≤ σ.2 16 (i * 6 + 1) ∧ σ.2 16 (i * 6 + 1) < σ.1 5 3) (h : Post (some (.int (zI 1))) σ) : zV G shC mX6_check 0 (zini 1 [.ref (zad G 0)]) [] σ Post := by
  refine z_rg (fun hR => ?_)
  refine z_lv (lv' := [some (.ref (zad G 0))]) rfl ?_
  refine z_aload_0 dX6_check_0 ?_
  refine z_getR (j := 4) dX6_check_1 zf_X6_37 rfl rfl ?_
  refine z_callV mX3_allDiffer [] dX6_check_4 zk_X3_allDiffer zl_X6_178 ⟨Nat.le_of_ble_eq_true rfl, Nat.le_of_ble_eq_true rfl⟩ rfl rfl (Nat.le_of_ble_eq_true rfl) (Nat.le_of_ble_eq_true rfl) ?_
  refine M_X3_allDiffer hsz0 hsz hln hd ?_
  refine z_b1 ?_
  refine z_if_eq (tgt := 21) dX6_check_7 (by decide) ⟨by decide, by decide⟩ (fun c7 => by exfalso; omega) (fun c7 => ?_)
  refine z_aload_0 dX6_check_10 ?_
  refine z_callV mX6_tokensHaveNames [] dX6_check_11 zk_X6_tokensHaveNames zl_X6_181 ⟨Nat.le_of_ble_eq_true rfl, Nat.le_of_ble_eq_true rfl⟩ rfl rfl (Nat.le_of_ble_eq_true rfl) (Nat.le_of_ble_eq_true rfl) ?_
  refine M_X6_tok hs0 hs hsz hv ?_
  refine z_b1 ?_
  refine z_if_eq (tgt := 21) dX6_check_14 (by decide) ⟨by decide, by decide⟩ (fun c14 => by exfalso; omega) (fun c14 => ?_)
  refine z_iconst 1 dX6_check_17 rfl ?_
  refine z_goto (tgt := 22) dX6_check_18 (by decide) ?_
  refine z_iret dX6_check_22 rfl ?_
  exact h

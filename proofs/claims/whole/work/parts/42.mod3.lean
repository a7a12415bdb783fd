set_option maxRecDepth 100000 in
theorem L_X7_begin1 {G : zG} {σ : zSt} {Post : Option Value → zSt → Prop} (T l : Int) (hR : zRg σ) (hl0 : 0 ≤ l) (hl : l < 240) : ∀ (m : Nat) (L : Int) (hL : L = (m : Int)) (hm : m ≤ 120) (h : zV G shM mX7_begin 35 [some (.ref (zad G 0)), some (.int (zI T)), some (.int (zI l)), some (.int (zI ((ztr (fun q => σ.2 6 (120 * l + q)) m : Nat) : Int))), none] [] σ Post), zV G shM mX7_begin 7 [some (.ref (zad G 0)), some (.int (zI T)), some (.int (zI l)), some (.int (zI L)), none] [] σ Post := by
  intro m
  induction m with
  | zero =>
    intro L hL hm h
    refine z_iload_3 dX7_begin_7 ?_
    refine z_if_le (tgt := 35) dX7_begin_8 (by decide) (by omega) (fun c8 => ?_) (fun c8 => by exfalso; omega)
    have e : ((ztr (fun q => σ.2 6 (120 * l + q)) 0 : Nat) : Int) = L := by rw [ztr]; omega
    rw [e] at h
    exact h
  | succ m ih =>
    intro L hL hm h
    refine z_iload_3 dX7_begin_7 ?_
    refine z_if_le (tgt := 35) dX7_begin_8 (by decide) (by omega) (fun c8 => by exfalso; omega) (fun c8 => ?_)
    refine z_aload_0 dX7_begin_11 ?_
    refine z_getR (j := 9) dX7_begin_12 zf_X7_30 rfl rfl ?_
    refine z_bipush 120 dX7_begin_15 (by decide +kernel) ?_
    refine z_iload_2 dX7_begin_17 ?_
    refine z_imul dX7_begin_18 ?_
    refine z_iload_3 dX7_begin_19 ?_
    refine z_iadd dX7_begin_20 ?_
    refine z_iconst 1 dX7_begin_21 rfl ?_
    refine z_isub dX7_begin_22 ?_
    refine z_iald dX7_begin_23 rfl (by decide) (by omega) (by omega) ?_
    have w1 : zR (σ.2 6 (((120 * l) + L) - 1)) := hR.2 6 (((120 * l) + L) - 1)
    refine z_bipush 32 dX7_begin_24 (by decide +kernel) ?_
    refine z_icmp_ne (tgt := 35) dX7_begin_26 (by decide) (by omega) ⟨by decide, by decide⟩ (fun c26 => ?_) (fun c26 => ?_)
    · have e0 : σ.2 6 (120 * l + (m : Int)) ≠ 32 := by rw [show 120 * l + (m : Int) = 120 * l + L - 1 by omega]; omega
      have e : ((ztr (fun q => σ.2 6 (120 * l + q)) (m + 1) : Nat) : Int) = L := by rw [ztr_ne e0]; omega
      rw [e] at h
      exact h
    · refine z_iinc_3 dX7_begin_29 (Nat.le_of_ble_eq_true rfl) rfl ?_
      refine z_goto (tgt := 7) dX7_begin_32 (by decide) ?_
      have e0 : σ.2 6 (120 * l + (m : Int)) = 32 := by rw [show 120 * l + (m : Int) = 120 * l + L - 1 by omega]; omega
      rw [ztr_eq e0] at h
      exact ih (L + (-1)) (by omega) (by omega) h

set_option maxRecDepth 100000 in
theorem L_X7_begin2 {G : zG} {σ : zSt} {Post : Option Value → zSt → Prop} (T l n : Int) (hR : zRg σ) (hl0 : 0 ≤ l) (hl : l < 240) (hT0 : 0 ≤ T) (hT6 : T < 6) (hn0 : 0 ≤ n) (hn : n ≤ 120) (h : zV G shM mX7_begin 75 [some (.ref (zad G 0)), some (.int (zI T)), some (.int (zI l)), some (.int (zI n)), some (.int (zI n))] [] (zsB σ 9 (128 * T) n (fun q => σ.2 6 (120 * l + q))) Post) : ∀ (m : Nat) (i : Int) (hi0 : 0 ≤ i) (him : i + m = n), zV G shM mX7_begin 38 [some (.ref (zad G 0)), some (.int (zI T)), some (.int (zI l)), some (.int (zI n)), some (.int (zI i))] [] (zsB σ 9 (128 * T) i (fun q => σ.2 6 (120 * l + q))) Post := by
  intro m
  induction m with
  | zero =>
    intro i hi0 him
    refine z_iload_4 dX7_begin_38 ?_
    refine z_iload_3 dX7_begin_40 ?_
    refine z_icmp_ge (tgt := 75) dX7_begin_41 (by decide) (by omega) (by omega) (fun c41 => ?_) (fun c41 => by exfalso; omega)
    have e : i = n := by omega
    subst e
    exact h
  | succ m ih =>
    intro i hi0 him
    refine z_iload_4 dX7_begin_38 ?_
    refine z_iload_3 dX7_begin_40 ?_
    refine z_icmp_ge (tgt := 75) dX7_begin_41 (by decide) (by omega) (by omega) (fun c41 => by exfalso; omega) (fun c41 => ?_)
    refine z_aload_0 dX7_begin_44 ?_
    refine z_getR (j := 13) dX7_begin_45 zf_X7_39 rfl rfl ?_
    refine z_sipush 128 dX7_begin_48 (by decide +kernel) ?_
    refine z_iload_1 dX7_begin_51 ?_
    refine z_imul dX7_begin_52 ?_
    refine z_iload_4 dX7_begin_53 ?_
    refine z_iadd dX7_begin_55 ?_
    refine z_aload_0 dX7_begin_56 ?_
    refine z_getR (j := 9) dX7_begin_57 zf_X7_30 rfl rfl ?_
    refine z_bipush 120 dX7_begin_60 (by decide +kernel) ?_
    refine z_iload_2 dX7_begin_62 ?_
    refine z_imul dX7_begin_63 ?_
    refine z_iload_4 dX7_begin_64 ?_
    refine z_iadd dX7_begin_66 ?_
    refine z_iald dX7_begin_67 rfl (by decide) (by omega) (by omega) ?_
    refine z_top (b := σ.2 6 ((120 * l) + i)) (zsB_ne1 (by omega)) ?_
    have w1 : zR (σ.2 6 ((120 * l) + i)) := hR.2 6 ((120 * l) + i)
    refine z_iast dX7_begin_68 rfl (by decide) (by omega) (by omega) (by omega) ?_
    refine z_iinc_4 dX7_begin_69 (Nat.le_of_ble_eq_true rfl) rfl ?_
    refine z_goto (tgt := 38) dX7_begin_72 (by decide) ?_
    exact z_st (zsB_S hi0 (by omega) rfl) (ih (i + 1) (by omega) (by omega))

set_option maxRecDepth 100000 in
theorem M_X7_begin {G : zG} {σ : zSt} {Post : Option Value → zSt → Prop} (T l : Int) (hT0 : 0 ≤ T) (hT6 : T < 6) (hl0 : 0 ≤ l) (hl : l < 240) (hln : ∀ q, 0 ≤ σ.2 5 q ∧ σ.2 5 q ≤ 120) (hbg0 : 0 ≤ σ.1 0 18) (hbg : σ.1 0 18 ≤ 2000000000) (h1 : 0 ≤ σ.1 0 5 → Post none (zsF (zsA (zsA (zsA (zsA (zsB σ 9 (128 * T) ((ztr (fun q => σ.2 6 (120 * l + q)) (σ.2 5 l).toNat : Nat) : Int) (fun q => σ.2 6 (120 * l + q))) 9 (128 * T + ((ztr (fun q => σ.2 6 (120 * l + q)) (σ.2 5 l).toNat : Nat) : Int)) (σ.1 0 5)) 10 T (((ztr (fun q => σ.2 6 (120 * l + q)) (σ.2 5 l).toNat : Nat) : Int) + 1)) 11 T 0) 12 T 0) 0 18 (σ.1 0 18 + 1))) (h0 : σ.1 0 5 < 0 → Post none (zsF (zsA (zsA (zsA (zsB σ 9 (128 * T) ((ztr (fun q => σ.2 6 (120 * l + q)) (σ.2 5 l).toNat : Nat) : Int) (fun q => σ.2 6 (120 * l + q))) 10 T (((ztr (fun q => σ.2 6 (120 * l + q)) (σ.2 5 l).toNat : Nat) : Int))) 11 T 0) 12 T 0) 0 18 (σ.1 0 18 + 1))) : zV G shM mX7_begin 0 (zini 5 [.ref (zad G 0), .int (zI T), .int (zI l)]) [] σ Post := by
  refine z_rg (fun hR => ?_)
  refine z_lv (lv' := [some (.ref (zad G 0)), some (.int (zI T)), some (.int (zI l)), none, none]) rfl ?_
  have hln1 := hln l
  refine z_aload_0 dX7_begin_0 ?_
  refine z_getR (j := 8) dX7_begin_1 zf_X7_27 rfl rfl ?_
  refine z_iload_2 dX7_begin_4 ?_
  refine z_iald dX7_begin_5 rfl (by decide) (by omega) (by omega) ?_
  have w1 : zR (σ.2 5 l) := hR.2 5 l
  refine z_istore_3 dX7_begin_6 (Nat.le_of_ble_eq_true rfl) rfl ?_
  have hz := ztr_le (fun q => σ.2 6 (120 * l + q)) (σ.2 5 l).toNat
  refine L_X7_begin1 T l hR hl0 hl (σ.2 5 l).toNat (σ.2 5 l) (by omega) (by omega) ?_
  refine z_iconst 0 dX7_begin_35 rfl ?_
  refine z_istore_4 dX7_begin_36 (Nat.le_of_ble_eq_true rfl) rfl ?_
  refine z_st zsB_0.symm (L_X7_begin2 T l _ hR hl0 hl hT0 hT6 (by omega) (by omega) ?_ (ztr (fun q => σ.2 6 (120 * l + q)) (σ.2 5 l).toNat) 0 (by omega) (by omega))
  refine z_aload_0 dX7_begin_75 ?_
  refine z_getI (j := 5) dX7_begin_76 zf_X7_20 rfl rfl ?_
  refine z_top (b := σ.1 0 5) zsB_F ?_
  have w2 : zR (σ.1 0 5) := hR.1 0 5
  refine z_if_lt (tgt := 101) dX7_begin_79 (by decide) (by omega) (fun c79 => ?_) (fun c79 => ?_)
  · refine z_aload_0 dX7_begin_101 ?_
    refine z_getR (j := 14) dX7_begin_102 zf_X7_42 rfl rfl ?_
    refine z_iload_1 dX7_begin_105 ?_
    refine z_iload_3 dX7_begin_106 ?_
    refine z_iast dX7_begin_107 rfl (by decide) (by omega) (by omega) (by omega) ?_
    refine z_aload_0 dX7_begin_108 ?_
    refine z_getR (j := 15) dX7_begin_109 zf_X7_45 rfl rfl ?_
    refine z_iload_1 dX7_begin_112 ?_
    refine z_iconst 0 dX7_begin_113 rfl ?_
    refine z_iast dX7_begin_114 rfl (by decide) (by omega) (by omega) ⟨by decide, by decide⟩ ?_
    refine z_aload_0 dX7_begin_115 ?_
    refine z_getR (j := 16) dX7_begin_116 zf_X7_48 rfl rfl ?_
    refine z_iload_1 dX7_begin_119 ?_
    refine z_iconst 0 dX7_begin_120 rfl ?_
    refine z_iast dX7_begin_121 rfl (by decide) (by omega) (by omega) ⟨by decide, by decide⟩ ?_
    refine z_aload_0 dX7_begin_122 ?_
    refine z_dup dX7_begin_123 rfl ?_
    refine z_getI (j := 18) dX7_begin_124 zf_X7_97 rfl rfl ?_
    refine z_top (b := σ.1 0 18) (zsA_F.trans (zsA_F.trans (zsA_F.trans zsB_F))) ?_
    have w3 : zR (σ.1 0 18) := hR.1 0 18
    refine z_iconst 1 dX7_begin_127 rfl ?_
    refine z_iadd dX7_begin_128 ?_
    refine z_putI (j := 18) dX7_begin_129 zp_X7_97 rfl rfl (by omega) ?_
    refine z_vret dX7_begin_132 rfl ?_
    first | exact h1 (by omega) | exact h0 (by omega)
  · refine z_aload_0 dX7_begin_82 ?_
    refine z_getR (j := 13) dX7_begin_83 zf_X7_39 rfl rfl ?_
    refine z_sipush 128 dX7_begin_86 (by decide +kernel) ?_
    refine z_iload_1 dX7_begin_89 ?_
    refine z_imul dX7_begin_90 ?_
    refine z_iload_3 dX7_begin_91 ?_
    refine z_iadd dX7_begin_92 ?_
    refine z_aload_0 dX7_begin_93 ?_
    refine z_getI (j := 5) dX7_begin_94 zf_X7_20 rfl rfl ?_
    refine z_top (b := σ.1 0 5) zsB_F ?_
    have w4 : zR (σ.1 0 5) := hR.1 0 5
    refine z_iast dX7_begin_97 rfl (by decide) (by omega) (by omega) (by omega) ?_
    refine z_iinc_3 dX7_begin_98 (Nat.le_of_ble_eq_true rfl) rfl ?_
    refine z_aload_0 dX7_begin_101 ?_
    refine z_getR (j := 14) dX7_begin_102 zf_X7_42 rfl rfl ?_
    refine z_iload_1 dX7_begin_105 ?_
    refine z_iload_3 dX7_begin_106 ?_
    refine z_iast dX7_begin_107 rfl (by decide) (by omega) (by omega) (by omega) ?_
    refine z_aload_0 dX7_begin_108 ?_
    refine z_getR (j := 15) dX7_begin_109 zf_X7_45 rfl rfl ?_
    refine z_iload_1 dX7_begin_112 ?_
    refine z_iconst 0 dX7_begin_113 rfl ?_
    refine z_iast dX7_begin_114 rfl (by decide) (by omega) (by omega) ⟨by decide, by decide⟩ ?_
    refine z_aload_0 dX7_begin_115 ?_
    refine z_getR (j := 16) dX7_begin_116 zf_X7_48 rfl rfl ?_
    refine z_iload_1 dX7_begin_119 ?_
    refine z_iconst 0 dX7_begin_120 rfl ?_
    refine z_iast dX7_begin_121 rfl (by decide) (by omega) (by omega) ⟨by decide, by decide⟩ ?_
    refine z_aload_0 dX7_begin_122 ?_
    refine z_dup dX7_begin_123 rfl ?_
    refine z_getI (j := 18) dX7_begin_124 zf_X7_97 rfl rfl ?_
    refine z_top (b := σ.1 0 18) (zsA_F.trans (zsA_F.trans (zsA_F.trans (zsA_F.trans zsB_F)))) ?_
    have w5 : zR (σ.1 0 18) := hR.1 0 18
    refine z_iconst 1 dX7_begin_127 rfl ?_
    refine z_iadd dX7_begin_128 ?_
    refine z_putI (j := 18) dX7_begin_129 zp_X7_97 rfl rfl (by omega) ?_
    refine z_vret dX7_begin_132 rfl ?_
    first | exact h1 (by omega) | exact h0 (by omega)

def zbn (σ : zSt) (l : Int) : Int := ((ztr (fun q => σ.2 6 (120 * l + q)) (σ.2 5 l).toNat : Nat) : Int)
def zbeg (σ : zSt) (T l : Int) : zSt :=
  if 0 ≤ σ.1 0 5 then zsF (zsA (zsA (zsA (zsA (zsB σ 9 (128 * T) (zbn σ l) (fun q => σ.2 6 (120 * l + q))) 9 (128 * T + zbn σ l) (σ.1 0 5)) 10 T (zbn σ l + 1)) 11 T 0) 12 T 0) 0 18 (σ.1 0 18 + 1)
  else zsF (zsA (zsA (zsA (zsB σ 9 (128 * T) (zbn σ l) (fun q => σ.2 6 (120 * l + q))) 10 T (zbn σ l)) 11 T 0) 12 T 0) 0 18 (σ.1 0 18 + 1)
theorem zbeg_F {σ : zSt} {T l : Int} {i j : Nat} (h : ¬ (i = 0 ∧ j = 18)) : (zbeg σ T l).1 i j = σ.1 i j := by
  unfold zbeg; split
  · exact zsF_ne h
  · exact zsF_ne h
theorem zbeg_12 {σ : zSt} {T l : Int} : (zbeg σ T l).2 12 T = 0 := by
  unfold zbeg; split
  · exact zsF_A.trans zsA_eq
  · exact zsF_A.trans zsA_eq
theorem zbeg_A {σ : zSt} {T l : Int} {i : Nat} (h : i ≠ 9 ∧ i ≠ 10 ∧ i ≠ 11 ∧ i ≠ 12) : (zbeg σ T l).2 i = σ.2 i := by
  unfold zbeg; split
  · exact (zsA_arr h.2.2.2).trans ((zsA_arr h.2.2.1).trans ((zsA_arr h.2.1).trans ((zsA_arr h.1).trans (zsB_arr h.1))))
  · exact (zsA_arr h.2.2.2).trans ((zsA_arr h.2.2.1).trans ((zsA_arr h.2.1).trans (zsB_arr h.1)))
theorem M_X7_beginZ {G : zG} {σ : zSt} {Post : Option Value → zSt → Prop} (T l : Int) (hT0 : 0 ≤ T) (hT6 : T < 6) (hl0 : 0 ≤ l) (hl : l < 240) (hln : ∀ q, 0 ≤ σ.2 5 q ∧ σ.2 5 q ≤ 120) (hbg0 : 0 ≤ σ.1 0 18) (hbg : σ.1 0 18 ≤ 2000000000) (h : Post none (zbeg σ T l)) : zV G shM mX7_begin 0 (zini 5 [.ref (zad G 0), .int (zI T), .int (zI l)]) [] σ Post :=
  M_X7_begin T l hT0 hT6 hl0 hl hln hbg0 hbg (fun q => by unfold zbeg at h; rw [if_pos q] at h; exact h) (fun q => by unfold zbeg at h; rw [if_neg (Int.not_le.mpr q)] at h; exact h)
def zhl : Nat → zSt → zSt
  | 0, σ => σ
  | t + 1, σ => if 0 ≤ σ.2 12 t then σ else if σ.2 13 t ≠ 0 ∨ σ.2 4 (σ.2 7 t) ≤ σ.2 8 t + 1 then zhl t (zsF σ 0 10 t) else zbeg (zsA σ 8 t (σ.2 8 t + 1)) t (30 * σ.2 7 t + (σ.2 8 t + 1))
theorem zhl_at {σ : zSt} {t : Nat} {T : Int} (hT : (t : Int) = T) (h : 0 ≤ σ.2 12 T) : zhl (t + 1) σ = σ := by subst hT; exact if_pos h
theorem zhl_pop {σ : zSt} {t : Nat} {T : Int} (hT : (t : Int) = T) (h : ¬ 0 ≤ σ.2 12 T) (h2 : σ.2 13 T ≠ 0 ∨ σ.2 4 (σ.2 7 T) ≤ σ.2 8 T + 1) : zhl (t + 1) σ = zhl t (zsF σ 0 10 T) := by subst hT; exact (if_neg h).trans (if_pos h2)
theorem zhl_beg {σ : zSt} {t : Nat} {T : Int} (hT : (t : Int) = T) (h : ¬ 0 ≤ σ.2 12 T) (h2 : ¬ (σ.2 13 T ≠ 0 ∨ σ.2 4 (σ.2 7 T) ≤ σ.2 8 T + 1)) : zhl (t + 1) σ = zbeg (zsA σ 8 T (σ.2 8 T + 1)) T (30 * σ.2 7 T + (σ.2 8 T + 1)) := by subst hT; exact (if_neg h).trans (if_neg h2)

set_option maxRecDepth 100000 in
theorem L_X7_hasLine {G : zG} {σ : zSt} {Post : Option Value → zSt → Prop} (L0 : Int) (hR : zRg σ) (hL6 : L0 ≤ 6) (hlf : ∀ t, 0 ≤ t → t < L0 → 0 ≤ σ.2 7 t ∧ σ.2 7 t < 8 ∧ -1 ≤ σ.2 8 t ∧ σ.2 8 t < σ.2 4 (σ.2 7 t)) (hlv : ∀ t, -1 ≤ σ.2 12 t ∧ σ.2 12 t ≤ 2 ∧ 0 ≤ σ.2 13 t ∧ σ.2 13 t ≤ 1) (hlc : ∀ q, 0 ≤ σ.2 4 q ∧ σ.2 4 q ≤ 30) (hln : ∀ q, 0 ≤ σ.2 5 q ∧ σ.2 5 q ≤ 120) (hbg0 : 0 ≤ σ.1 0 18) (hbg : σ.1 0 18 ≤ 2000000000) : ∀ (m : Nat) (Lv T : Int) (y1 y2 : Option Value) (hL : Lv = (m : Int)) (hT : Lv = T + 1) (hL0 : Lv ≤ L0) (h1 : 0 < (zhl m (zsF σ 0 10 Lv)).1 0 10 → Post (some (.int (zI 1))) (zhl m (zsF σ 0 10 Lv))) (h0 : (zhl m (zsF σ 0 10 Lv)).1 0 10 ≤ 0 → Post (some (.int (zI 0))) (zhl m (zsF σ 0 10 Lv))), zV G shM mX7_hasLine 0 [some (.ref (zad G 0)), y1, y2] [] (zsF σ 0 10 Lv) Post := by
  intro m
  induction m with
  | zero =>
    intro Lv T y1 y2 hL hT hL0 h1 h0
    refine z_aload_0 dX7_hasLine_0 ?_
    refine z_getI (j := 10) dX7_hasLine_1 zf_X7_90 rfl rfl ?_
    refine z_top (b := Lv) zsF_eq ?_
    refine z_if_le (tgt := 103) dX7_hasLine_4 (by decide) (by omega) (fun c4 => ?_) (fun c4 => by exfalso; omega)
    refine z_aload_0 dX7_hasLine_103 ?_
    refine z_getI (j := 10) dX7_hasLine_104 zf_X7_90 rfl rfl ?_
    refine z_top (b := Lv) zsF_eq ?_
    refine z_if_le (tgt := 114) dX7_hasLine_107 (by decide) (by omega) (fun c107 => ?_) (fun c107 => by exfalso; omega)
    refine z_iconst 0 dX7_hasLine_114 rfl ?_
    refine z_zret dX7_hasLine_115 rfl (Or.inl rfl) ?_
    exact h0 (by show Lv ≤ 0; omega)
  | succ m ih =>
    intro Lv T y1 y2 hL hT hL0 h1 h0
    have hlf1 := hlf T (by omega) (by omega)
    have hlv1 := hlv T
    have hlc1 := hlc (σ.2 7 T)
    refine z_aload_0 dX7_hasLine_0 ?_
    refine z_getI (j := 10) dX7_hasLine_1 zf_X7_90 rfl rfl ?_
    refine z_top (b := Lv) zsF_eq ?_
    refine z_if_le (tgt := 103) dX7_hasLine_4 (by decide) (by omega) (fun c4 => by exfalso; omega) (fun c4 => ?_)
    refine z_aload_0 dX7_hasLine_7 ?_
    refine z_getR (j := 16) dX7_hasLine_8 zf_X7_48 rfl rfl ?_
    refine z_aload_0 dX7_hasLine_11 ?_
    refine z_getI (j := 10) dX7_hasLine_12 zf_X7_90 rfl rfl ?_
    refine z_top (b := Lv) zsF_eq ?_
    refine z_iconst 1 dX7_hasLine_15 rfl ?_
    refine z_isub dX7_hasLine_16 ?_
    refine z_top (b := T) (by omega) ?_
    refine z_iald dX7_hasLine_17 rfl (by decide) (by omega) (by omega) ?_
    refine z_top (b := σ.2 12 T) zsF_A ?_
    have w1 : zR (σ.2 12 T) := hR.2 12 T
    refine z_if_ge (tgt := 103) dX7_hasLine_18 (by decide) (by omega) (fun c18 => ?_) (fun c18 => ?_)
    · refine z_aload_0 dX7_hasLine_103 ?_
      refine z_getI (j := 10) dX7_hasLine_104 zf_X7_90 rfl rfl ?_
      refine z_top (b := Lv) zsF_eq ?_
      refine z_if_le (tgt := 114) dX7_hasLine_107 (by decide) (by omega) (fun c107 => by exfalso; omega) (fun c107 => ?_)
      refine z_iconst 1 dX7_hasLine_110 rfl ?_
      refine z_goto (tgt := 115) dX7_hasLine_111 (by decide) ?_
      refine z_zret dX7_hasLine_115 rfl (Or.inr rfl) ?_
      have hT' : ((m : Nat) : Int) = T := by omega
      have e8 : 0 ≤ (zsF σ 0 10 Lv).2 12 T := (show 0 ≤ σ.2 12 T by omega)
      rw [zhl_at hT' e8] at h1
      exact h1 (zgtE zsF_eq (by omega))
    · refine z_aload_0 dX7_hasLine_21 ?_
      refine z_getI (j := 10) dX7_hasLine_22 zf_X7_90 rfl rfl ?_
      refine z_top (b := Lv) zsF_eq ?_
      refine z_iconst 1 dX7_hasLine_25 rfl ?_
      refine z_isub dX7_hasLine_26 ?_
      refine z_top (b := T) (by omega) ?_
      refine z_istore_1 dX7_hasLine_27 (Nat.le_of_ble_eq_true rfl) rfl ?_
      refine z_aload_0 dX7_hasLine_28 ?_
      refine z_getR (j := 11) dX7_hasLine_29 zf_X7_33 rfl rfl ?_
      refine z_iload_1 dX7_hasLine_32 ?_
      refine z_iald dX7_hasLine_33 rfl (by decide) (by omega) (by omega) ?_
      refine z_top (b := σ.2 7 T) zsF_A ?_
      have w2 : zR (σ.2 7 T) := hR.2 7 T
      refine z_istore_2 dX7_hasLine_34 (Nat.le_of_ble_eq_true rfl) rfl ?_
      refine z_aload_0 dX7_hasLine_35 ?_
      refine z_getR (j := 17) dX7_hasLine_36 zf_X7_51 rfl rfl ?_
      refine z_iload_1 dX7_hasLine_39 ?_
      refine z_zald dX7_hasLine_40 rfl (by decide) (by omega) (by omega) ?_
      refine z_top (b := σ.2 13 T) zsF_A ?_
      have w3 : zR (σ.2 13 T) := hR.2 13 T
      refine z_if_ne (tgt := 61) dX7_hasLine_41 (by decide) (by omega) (fun c41 => ?_) (fun c41 => ?_)
      · refine z_aload_0 dX7_hasLine_61 ?_
        refine z_dup dX7_hasLine_62 rfl ?_
        refine z_getI (j := 10) dX7_hasLine_63 zf_X7_90 rfl rfl ?_
        refine z_top (b := Lv) zsF_eq ?_
        refine z_iconst 1 dX7_hasLine_66 rfl ?_
        refine z_isub dX7_hasLine_67 ?_
        refine z_top (b := T) (by omega) ?_
        refine z_putI (j := 10) dX7_hasLine_68 zp_X7_90 rfl rfl (by omega) ?_
        refine z_goto (tgt := 100) dX7_hasLine_71 (by decide) ?_
        refine z_goto (tgt := 0) dX7_hasLine_100 (by decide) ?_
        refine z_st zg_1 ?_
        have hT' : ((m : Nat) : Int) = T := by omega
        have e8 : ¬ 0 ≤ (zsF σ 0 10 Lv).2 12 T := fun q => by have q1 : 0 ≤ σ.2 12 T := q; omega
        have e7 : (zsF σ 0 10 Lv).2 13 T ≠ 0 ∨ (zsF σ 0 10 Lv).2 4 ((zsF σ 0 10 Lv).2 7 T) ≤ (zsF σ 0 10 Lv).2 8 T + 1 := (show σ.2 13 T ≠ 0 ∨ σ.2 4 (σ.2 7 T) ≤ σ.2 8 T + 1 by omega)
        rw [(zhl_pop hT' e8 e7).trans (congrArg (zhl m) zg_1)] at h1 h0
        exact ih T (T - 1) _ _ (by omega) (by omega) (by omega) h1 h0
      · refine z_aload_0 dX7_hasLine_44 ?_
        refine z_getR (j := 12) dX7_hasLine_45 zf_X7_36 rfl rfl ?_
        refine z_iload_1 dX7_hasLine_48 ?_
        refine z_iald dX7_hasLine_49 rfl (by decide) (by omega) (by omega) ?_
        refine z_top (b := σ.2 8 T) zsF_A ?_
        have w4 : zR (σ.2 8 T) := hR.2 8 T
        refine z_iconst 1 dX7_hasLine_50 rfl ?_
        refine z_iadd dX7_hasLine_51 ?_
        refine z_aload_0 dX7_hasLine_52 ?_
        refine z_getR (j := 7) dX7_hasLine_53 zf_X7_24 rfl rfl ?_
        refine z_iload_2 dX7_hasLine_56 ?_
        refine z_iald dX7_hasLine_57 rfl (by decide) (by omega) (by omega) ?_
        refine z_top (b := σ.2 4 (σ.2 7 T)) zsF_A ?_
        have w5 : zR (σ.2 4 (σ.2 7 T)) := hR.2 4 (σ.2 7 T)
        refine z_icmp_lt (tgt := 74) dX7_hasLine_58 (by decide) (by omega) (by omega) (fun c58 => ?_) (fun c58 => ?_)
        · refine z_aload_0 dX7_hasLine_74 ?_
          refine z_getR (j := 12) dX7_hasLine_75 zf_X7_36 rfl rfl ?_
          refine z_iload_1 dX7_hasLine_78 ?_
          refine z_dup2 dX7_hasLine_79 rfl rfl ?_
          refine z_iald dX7_hasLine_80 rfl (by decide) (by omega) (by omega) ?_
          refine z_top (b := σ.2 8 T) zsF_A ?_
          have w6 : zR (σ.2 8 T) := hR.2 8 T
          refine z_iconst 1 dX7_hasLine_81 rfl ?_
          refine z_iadd dX7_hasLine_82 ?_
          refine z_iast dX7_hasLine_83 rfl (by decide) (by omega) (by omega) (by omega) ?_
          refine z_aload_0 dX7_hasLine_84 ?_
          refine z_iload_1 dX7_hasLine_85 ?_
          refine z_bipush 30 dX7_hasLine_86 (by decide +kernel) ?_
          refine z_iload_2 dX7_hasLine_88 ?_
          refine z_imul dX7_hasLine_89 ?_
          refine z_aload_0 dX7_hasLine_90 ?_
          refine z_getR (j := 12) dX7_hasLine_91 zf_X7_36 rfl rfl ?_
          refine z_iload_1 dX7_hasLine_94 ?_
          refine z_iald dX7_hasLine_95 rfl (by decide) (by omega) (by omega) ?_
          refine z_top (b := ((σ.2 8 T) + 1)) zsA_eq ?_
          refine z_iadd dX7_hasLine_96 ?_
          refine z_callV mX7_begin [.int (zI T), .int (zI ((30 * (σ.2 7 T)) + ((σ.2 8 T) + 1)))] dX7_hasLine_97 zk_X7_begin zl_X7_93 ⟨Nat.le_of_ble_eq_true rfl, Nat.le_of_ble_eq_true rfl⟩ rfl rfl (Nat.le_of_ble_eq_true rfl) (Nat.le_of_ble_eq_true rfl) ?_
          refine M_X7_beginZ T ((30 * (σ.2 7 T)) + ((σ.2 8 T) + 1)) (by omega) (by omega) (by omega) (by omega) (fun q => hln q) (zgeE (b := σ.1 0 18) (zsA_F.trans (zsF_ne (by omega))) (by omega)) (zleE (b := σ.1 0 18) (zsA_F.trans (zsF_ne (by omega))) (by omega)) ?_
          refine z_b0 ?_
          refine z_goto (tgt := 0) dX7_hasLine_100 (by decide) ?_
          refine z_aload_0 dX7_hasLine_0 ?_
          refine z_getI (j := 10) dX7_hasLine_1 zf_X7_90 rfl rfl ?_
          refine z_top (b := Lv) ((zbeg_F (by omega)).trans (zsA_F.trans zsF_eq)) ?_
          refine z_if_le (tgt := 103) dX7_hasLine_4 (by decide) (by omega) (fun c4 => by exfalso; omega) (fun c4 => ?_)
          refine z_aload_0 dX7_hasLine_7 ?_
          refine z_getR (j := 16) dX7_hasLine_8 zf_X7_48 rfl rfl ?_
          refine z_aload_0 dX7_hasLine_11 ?_
          refine z_getI (j := 10) dX7_hasLine_12 zf_X7_90 rfl rfl ?_
          refine z_top (b := Lv) ((zbeg_F (by omega)).trans (zsA_F.trans zsF_eq)) ?_
          refine z_iconst 1 dX7_hasLine_15 rfl ?_
          refine z_isub dX7_hasLine_16 ?_
          refine z_top (b := T) (by omega) ?_
          refine z_iald dX7_hasLine_17 rfl (by decide) (by omega) (by omega) ?_
          refine z_top (b := 0) zbeg_12 ?_
          refine z_if_ge (tgt := 103) dX7_hasLine_18 (by decide) ⟨by decide, by decide⟩ (fun c18 => ?_) (fun c18 => by exfalso; omega)
          refine z_aload_0 dX7_hasLine_103 ?_
          refine z_getI (j := 10) dX7_hasLine_104 zf_X7_90 rfl rfl ?_
          refine z_top (b := Lv) ((zbeg_F (by omega)).trans (zsA_F.trans zsF_eq)) ?_
          refine z_if_le (tgt := 114) dX7_hasLine_107 (by decide) (by omega) (fun c107 => by exfalso; omega) (fun c107 => ?_)
          refine z_iconst 1 dX7_hasLine_110 rfl ?_
          refine z_goto (tgt := 115) dX7_hasLine_111 (by decide) ?_
          refine z_zret dX7_hasLine_115 rfl (Or.inr rfl) ?_
          have hT' : ((m : Nat) : Int) = T := by omega
          have e8 : ¬ 0 ≤ (zsF σ 0 10 Lv).2 12 T := fun q => by have q1 : 0 ≤ σ.2 12 T := q; omega
          have e7 : ¬ ((zsF σ 0 10 Lv).2 13 T ≠ 0 ∨ (zsF σ 0 10 Lv).2 4 ((zsF σ 0 10 Lv).2 7 T) ≤ (zsF σ 0 10 Lv).2 8 T + 1) := (show ¬ (σ.2 13 T ≠ 0 ∨ σ.2 4 (σ.2 7 T) ≤ σ.2 8 T + 1) by omega)
          rw [zhl_beg hT' e8 e7] at h1
          exact h1 (zgtE (b := Lv) ((zbeg_F (by omega)).trans (zsA_F.trans zsF_eq)) (by omega))
        · refine z_aload_0 dX7_hasLine_61 ?_
          refine z_dup dX7_hasLine_62 rfl ?_
          refine z_getI (j := 10) dX7_hasLine_63 zf_X7_90 rfl rfl ?_
          refine z_top (b := Lv) zsF_eq ?_
          refine z_iconst 1 dX7_hasLine_66 rfl ?_
          refine z_isub dX7_hasLine_67 ?_
          refine z_top (b := T) (by omega) ?_
          refine z_putI (j := 10) dX7_hasLine_68 zp_X7_90 rfl rfl (by omega) ?_
          refine z_goto (tgt := 100) dX7_hasLine_71 (by decide) ?_
          refine z_goto (tgt := 0) dX7_hasLine_100 (by decide) ?_
          refine z_st zg_1 ?_
          have hT' : ((m : Nat) : Int) = T := by omega
          have e8 : ¬ 0 ≤ (zsF σ 0 10 Lv).2 12 T := fun q => by have q1 : 0 ≤ σ.2 12 T := q; omega
          have e7 : (zsF σ 0 10 Lv).2 13 T ≠ 0 ∨ (zsF σ 0 10 Lv).2 4 ((zsF σ 0 10 Lv).2 7 T) ≤ (zsF σ 0 10 Lv).2 8 T + 1 := (show σ.2 13 T ≠ 0 ∨ σ.2 4 (σ.2 7 T) ≤ σ.2 8 T + 1 by omega)
          rw [(zhl_pop hT' e8 e7).trans (congrArg (zhl m) zg_1)] at h1 h0
          exact ih T (T - 1) _ _ (by omega) (by omega) (by omega) h1 h0

set_option maxRecDepth 100000 in
theorem M_X7_hasLine {G : zG} {σ : zSt} {Post : Option Value → zSt → Prop} (hl0 : 0 ≤ σ.1 0 10) (hL6 : σ.1 0 10 ≤ 6) (hlf : ∀ t, 0 ≤ t → t < σ.1 0 10 → 0 ≤ σ.2 7 t ∧ σ.2 7 t < 8 ∧ -1 ≤ σ.2 8 t ∧ σ.2 8 t < σ.2 4 (σ.2 7 t)) (hlv : ∀ t, -1 ≤ σ.2 12 t ∧ σ.2 12 t ≤ 2 ∧ 0 ≤ σ.2 13 t ∧ σ.2 13 t ≤ 1) (hlc : ∀ q, 0 ≤ σ.2 4 q ∧ σ.2 4 q ≤ 30) (hln : ∀ q, 0 ≤ σ.2 5 q ∧ σ.2 5 q ≤ 120) (hbg0 : 0 ≤ σ.1 0 18) (hbg : σ.1 0 18 ≤ 2000000000) (h1 : 0 < (zhl (σ.1 0 10).toNat σ).1 0 10 → Post (some (.int (zI 1))) (zhl (σ.1 0 10).toNat σ)) (h0 : (zhl (σ.1 0 10).toNat σ).1 0 10 ≤ 0 → Post (some (.int (zI 0))) (zhl (σ.1 0 10).toNat σ)) : zV G shM mX7_hasLine 0 (zini 3 [.ref (zad G 0)]) [] σ Post := by
  refine z_rg (fun hR => ?_)
  refine z_lv (lv' := [some (.ref (zad G 0)), none, none]) rfl ?_
  have e1 : zsF σ 0 10 (σ.1 0 10) = σ := zsF_id rfl
  refine z_st e1.symm (L_X7_hasLine (σ.1 0 10) hR hL6 hlf hlv hlc hln hbg0 hbg (σ.1 0 10).toNat (σ.1 0 10) (σ.1 0 10 - 1) none none (by omega) (by omega) (by omega) ?_ ?_)
  · rw [e1]; exact h1
  · rw [e1]; exact h0

def zisW (σ : zSt) (wl a : Int) : Prop := σ.2 16 a = wl ∧ ∀ k, 0 ≤ k → k < wl → σ.2 15 (40 * a + k) = σ.2 18 k

set_option maxRecDepth 100000 in
theorem L_X7_nw1 {G : zG} {σ : zSt} {Post : Option Value → zSt → Prop} (a : Int) (ha0 : 0 ≤ a) (ha : a < 150) (hR : zRg σ) (hna0 : 0 ≤ σ.1 0 21) (hna1 : σ.1 0 21 ≤ 150) (hw0 : 0 ≤ σ.1 0 29) (hw1 : σ.1 0 29 ≤ 40) (he : σ.2 16 a = (σ.1 0 29)) (h1 : zisW σ (σ.1 0 29) a → Post (some (.int (zI a))) σ) (h0 : ¬ zisW σ (σ.1 0 29) a → ∀ y2 y3, zV G shM mX7_nameOfWord 2 [some (.ref (zad G 0)), some (.int (zI (a + 1))), y2, y3] [] σ Post) : ∀ (m : Nat) (k : Int) (hk0 : 0 ≤ k) (hm : k + m = (σ.1 0 29)) (hq : ∀ j, 0 ≤ j → j < k → σ.2 15 (40 * a + j) = σ.2 18 j), zV G shM mX7_nameOfWord 31 [some (.ref (zad G 0)), some (.int (zI a)), some (.int (zI 1)), some (.int (zI k))] [] σ Post := by
  intro m
  induction m with
  | zero =>
    intro k hk0 hm hq
    refine z_iload_3 dX7_nameOfWord_31 ?_
    refine z_aload_0 dX7_nameOfWord_32 ?_
    refine z_getI (j := 29) dX7_nameOfWord_33 zf_X7_122 rfl rfl ?_
    have w1 : zR (σ.1 0 29) := hR.1 0 29
    refine z_icmp_ge (tgt := 75) dX7_nameOfWord_36 (by decide) (by omega) (by omega) (fun c36 => ?_) (fun c36 => by exfalso; omega)
    refine z_iload_2 dX7_nameOfWord_75 ?_
    refine z_if_eq (tgt := 81) dX7_nameOfWord_76 (by decide) ⟨by decide, by decide⟩ (fun c76 => by exfalso; omega) (fun c76 => ?_)
    refine z_iload_1 dX7_nameOfWord_79 ?_
    refine z_iret dX7_nameOfWord_80 rfl ?_
    exact h1 ⟨he, fun j q0 q1 => hq j q0 (by omega)⟩
  | succ m ih =>
    intro k hk0 hm hq
    refine z_iload_3 dX7_nameOfWord_31 ?_
    refine z_aload_0 dX7_nameOfWord_32 ?_
    refine z_getI (j := 29) dX7_nameOfWord_33 zf_X7_122 rfl rfl ?_
    have w1 : zR (σ.1 0 29) := hR.1 0 29
    refine z_icmp_ge (tgt := 75) dX7_nameOfWord_36 (by decide) (by omega) (by omega) (fun c36 => by exfalso; omega) (fun c36 => ?_)
    refine z_iload_2 dX7_nameOfWord_39 ?_
    refine z_if_eq (tgt := 75) dX7_nameOfWord_40 (by decide) ⟨by decide, by decide⟩ (fun c40 => by exfalso; omega) (fun c40 => ?_)
    refine z_aload_0 dX7_nameOfWord_43 ?_
    refine z_getR (j := 22) dX7_nameOfWord_44 zf_X7_57 rfl rfl ?_
    refine z_bipush 40 dX7_nameOfWord_47 (by decide +kernel) ?_
    refine z_iload_1 dX7_nameOfWord_49 ?_
    refine z_imul dX7_nameOfWord_50 ?_
    refine z_iload_3 dX7_nameOfWord_51 ?_
    refine z_iadd dX7_nameOfWord_52 ?_
    refine z_iald dX7_nameOfWord_53 rfl (by decide) (by omega) (by omega) ?_
    have w2 : zR (σ.2 15 ((40 * a) + k)) := hR.2 15 ((40 * a) + k)
    refine z_aload_0 dX7_nameOfWord_54 ?_
    refine z_getR (j := 28) dX7_nameOfWord_55 zf_X7_66 rfl rfl ?_
    refine z_iload_3 dX7_nameOfWord_58 ?_
    refine z_iald dX7_nameOfWord_59 rfl (by decide) (by omega) (by omega) ?_
    have w3 : zR (σ.2 18 k) := hR.2 18 k
    refine z_icmp_ne (tgt := 67) dX7_nameOfWord_60 (by decide) (by omega) (by omega) (fun c60 => ?_) (fun c60 => ?_)
    · refine z_iconst 0 dX7_nameOfWord_67 rfl ?_
      refine z_istore_2 dX7_nameOfWord_68 (Nat.le_of_ble_eq_true rfl) rfl ?_
      refine z_iinc_3 dX7_nameOfWord_69 (Nat.le_of_ble_eq_true rfl) rfl ?_
      refine z_goto (tgt := 31) dX7_nameOfWord_72 (by decide) ?_
      refine z_iload_3 dX7_nameOfWord_31 ?_
      refine z_aload_0 dX7_nameOfWord_32 ?_
      refine z_getI (j := 29) dX7_nameOfWord_33 zf_X7_122 rfl rfl ?_
      have w4 : zR (σ.1 0 29) := hR.1 0 29
      refine z_icmp_ge (tgt := 75) dX7_nameOfWord_36 (by decide) (by omega) (by omega) (fun c36 => ?_) (fun c36 => ?_)
      · refine z_iload_2 dX7_nameOfWord_75 ?_
        refine z_if_eq (tgt := 81) dX7_nameOfWord_76 (by decide) ⟨by decide, by decide⟩ (fun c76 => ?_) (fun c76 => by exfalso; omega)
        refine z_iinc_1 dX7_nameOfWord_81 (Nat.le_of_ble_eq_true rfl) rfl ?_
        refine z_goto (tgt := 2) dX7_nameOfWord_84 (by decide) ?_
        exact h0 (fun q => by have := q.2 k hk0 (by omega); omega) _ _
      · refine z_iload_2 dX7_nameOfWord_39 ?_
        refine z_if_eq (tgt := 75) dX7_nameOfWord_40 (by decide) ⟨by decide, by decide⟩ (fun c40 => ?_) (fun c40 => by exfalso; omega)
        refine z_iload_2 dX7_nameOfWord_75 ?_
        refine z_if_eq (tgt := 81) dX7_nameOfWord_76 (by decide) ⟨by decide, by decide⟩ (fun c76 => ?_) (fun c76 => by exfalso; omega)
        refine z_iinc_1 dX7_nameOfWord_81 (Nat.le_of_ble_eq_true rfl) rfl ?_
        refine z_goto (tgt := 2) dX7_nameOfWord_84 (by decide) ?_
        exact h0 (fun q => by have := q.2 k hk0 (by omega); omega) _ _
    · refine z_iconst 1 dX7_nameOfWord_63 rfl ?_
      refine z_goto (tgt := 68) dX7_nameOfWord_64 (by decide) ?_
      refine z_istore_2 dX7_nameOfWord_68 (Nat.le_of_ble_eq_true rfl) rfl ?_
      refine z_iinc_3 dX7_nameOfWord_69 (Nat.le_of_ble_eq_true rfl) rfl ?_
      refine z_goto (tgt := 31) dX7_nameOfWord_72 (by decide) ?_
      exact ih (k + 1) (by omega) (by omega) (fun j q0 q1 => by
        rcases Decidable.em (j = k) with q | q
        · subst q; omega
        · exact hq j q0 (by omega))

set_option maxRecDepth 100000 in
theorem L_X7_nw3 {G : zG} {σ : zSt} {Post : Option Value → zSt → Prop} (hR : zRg σ) (hna0 : 0 ≤ σ.1 0 21) (hna1 : σ.1 0 21 ≤ 150) (hw0 : 0 ≤ σ.1 0 29) (hw1 : σ.1 0 29 ≤ 40) (hn : σ.1 0 21 < 150) (y2 y3 : Option Value) (h2 : Post (some (.int (zI (σ.1 0 21)))) (zsF (zsA (zsB σ 15 (40 * σ.1 0 21) (σ.1 0 29) (σ.2 18)) 16 (σ.1 0 21) (σ.1 0 29)) 0 21 (σ.1 0 21 + 1))) : ∀ (m : Nat) (k : Int) (hk0 : 0 ≤ k) (hm : k + m = σ.1 0 29), zV G shM mX7_nameOfWord 101 [some (.ref (zad G 0)), some (.int (zI k)), y2, y3] [] (zsB σ 15 (40 * σ.1 0 21) k (σ.2 18)) Post := by
  intro m
  induction m with
  | zero =>
    intro k hk0 hm
    refine z_iload_1 dX7_nameOfWord_101 ?_
    refine z_aload_0 dX7_nameOfWord_102 ?_
    refine z_getI (j := 29) dX7_nameOfWord_103 zf_X7_122 rfl rfl ?_
    refine z_top (b := σ.1 0 29) zsB_F ?_
    have w1 : zR (σ.1 0 29) := hR.1 0 29
    refine z_icmp_ge (tgt := 135) dX7_nameOfWord_106 (by decide) (by omega) (by omega) (fun c106 => ?_) (fun c106 => by exfalso; omega)
    refine z_aload_0 dX7_nameOfWord_135 ?_
    refine z_getR (j := 23) dX7_nameOfWord_136 zf_X7_60 rfl rfl ?_
    refine z_aload_0 dX7_nameOfWord_139 ?_
    refine z_getI (j := 21) dX7_nameOfWord_140 zf_X7_69 rfl rfl ?_
    refine z_top (b := σ.1 0 21) zsB_F ?_
    have w2 : zR (σ.1 0 21) := hR.1 0 21
    refine z_aload_0 dX7_nameOfWord_143 ?_
    refine z_getI (j := 29) dX7_nameOfWord_144 zf_X7_122 rfl rfl ?_
    refine z_top (b := σ.1 0 29) zsB_F ?_
    have w3 : zR (σ.1 0 29) := hR.1 0 29
    refine z_iast dX7_nameOfWord_147 rfl (by decide) (by omega) (by omega) (by omega) ?_
    refine z_aload_0 dX7_nameOfWord_148 ?_
    refine z_dup dX7_nameOfWord_149 rfl ?_
    refine z_getI (j := 21) dX7_nameOfWord_150 zf_X7_69 rfl rfl ?_
    refine z_top (b := σ.1 0 21) (zsA_F.trans zsB_F) ?_
    have w4 : zR (σ.1 0 21) := hR.1 0 21
    refine z_iconst 1 dX7_nameOfWord_153 rfl ?_
    refine z_iadd dX7_nameOfWord_154 ?_
    refine z_putI (j := 21) dX7_nameOfWord_155 zp_X7_69 rfl rfl (by omega) ?_
    refine z_aload_0 dX7_nameOfWord_158 ?_
    refine z_getI (j := 21) dX7_nameOfWord_159 zf_X7_69 rfl rfl ?_
    refine z_top (b := ((σ.1 0 21) + 1)) zsF_eq ?_
    refine z_iconst 1 dX7_nameOfWord_162 rfl ?_
    refine z_isub dX7_nameOfWord_163 ?_
    refine z_iret dX7_nameOfWord_164 rfl ?_
    have e : k = σ.1 0 29 := by omega
    subst e
    exact zPe h2 (by omega)
  | succ m ih =>
    intro k hk0 hm
    refine z_iload_1 dX7_nameOfWord_101 ?_
    refine z_aload_0 dX7_nameOfWord_102 ?_
    refine z_getI (j := 29) dX7_nameOfWord_103 zf_X7_122 rfl rfl ?_
    refine z_top (b := σ.1 0 29) zsB_F ?_
    have w1 : zR (σ.1 0 29) := hR.1 0 29
    refine z_icmp_ge (tgt := 135) dX7_nameOfWord_106 (by decide) (by omega) (by omega) (fun c106 => by exfalso; omega) (fun c106 => ?_)
    refine z_aload_0 dX7_nameOfWord_109 ?_
    refine z_getR (j := 22) dX7_nameOfWord_110 zf_X7_57 rfl rfl ?_
    refine z_bipush 40 dX7_nameOfWord_113 (by decide +kernel) ?_
    refine z_aload_0 dX7_nameOfWord_115 ?_
    refine z_getI (j := 21) dX7_nameOfWord_116 zf_X7_69 rfl rfl ?_
    refine z_top (b := σ.1 0 21) zsB_F ?_
    have w2 : zR (σ.1 0 21) := hR.1 0 21
    refine z_imul dX7_nameOfWord_119 ?_
    refine z_iload_1 dX7_nameOfWord_120 ?_
    refine z_iadd dX7_nameOfWord_121 ?_
    refine z_aload_0 dX7_nameOfWord_122 ?_
    refine z_getR (j := 28) dX7_nameOfWord_123 zf_X7_66 rfl rfl ?_
    refine z_iload_1 dX7_nameOfWord_126 ?_
    refine z_iald dX7_nameOfWord_127 rfl (by decide) (by omega) (by omega) ?_
    refine z_top (b := σ.2 18 k) (zsB_ne1 (by omega)) ?_
    have w3 : zR (σ.2 18 k) := hR.2 18 k
    refine z_iast dX7_nameOfWord_128 rfl (by decide) (by omega) (by omega) (by omega) ?_
    refine z_iinc_1 dX7_nameOfWord_129 (Nat.le_of_ble_eq_true rfl) rfl ?_
    refine z_goto (tgt := 101) dX7_nameOfWord_132 (by decide) ?_
    exact z_st (zsB_S hk0 rfl rfl) (ih (k + 1) (by omega) (by omega))

set_option maxRecDepth 100000 in
theorem L_X7_nw2 {G : zG} {σ : zSt} {Post : Option Value → zSt → Prop} (hR : zRg σ) (hna0 : 0 ≤ σ.1 0 21) (hna1 : σ.1 0 21 ≤ 150) (hw0 : 0 ≤ σ.1 0 29) (hw1 : σ.1 0 29 ≤ 40) (hnl : ∀ q, 0 ≤ σ.2 16 q ∧ σ.2 16 q ≤ 40) (h1 : ∀ j, 0 ≤ j → j < σ.1 0 21 → zisW σ (σ.1 0 29) j → (∀ i, 0 ≤ i → i < j → ¬ zisW σ (σ.1 0 29) i) → Post (some (.int (zI j))) σ) (h2 : (∀ j, 0 ≤ j → j < σ.1 0 21 → ¬ zisW σ (σ.1 0 29) j) → σ.1 0 21 < 150 → Post (some (.int (zI (σ.1 0 21)))) (zsF (zsA (zsB σ 15 (40 * σ.1 0 21) (σ.1 0 29) (σ.2 18)) 16 (σ.1 0 21) (σ.1 0 29)) 0 21 (σ.1 0 21 + 1))) (h0 : (∀ j, 0 ≤ j → j < σ.1 0 21 → ¬ zisW σ (σ.1 0 29) j) → σ.1 0 21 = 150 → Post (some (.int (zI (-1)))) σ) : ∀ (m : Nat) (i : Int) (y2 y3 : Option Value) (hi0 : 0 ≤ i) (hm : i + m = σ.1 0 21) (hq : ∀ j, 0 ≤ j → j < i → ¬ zisW σ (σ.1 0 29) j), zV G shM mX7_nameOfWord 2 [some (.ref (zad G 0)), some (.int (zI i)), y2, y3] [] σ Post := by
  intro m
  induction m with
  | zero =>
    intro i y2 y3 hi0 hm hq
    refine z_iload_1 dX7_nameOfWord_2 ?_
    refine z_aload_0 dX7_nameOfWord_3 ?_
    refine z_getI (j := 21) dX7_nameOfWord_4 zf_X7_69 rfl rfl ?_
    have w1 : zR (σ.1 0 21) := hR.1 0 21
    refine z_icmp_ge (tgt := 87) dX7_nameOfWord_7 (by decide) (by omega) (by omega) (fun c7 => ?_) (fun c7 => by exfalso; omega)
    refine z_aload_0 dX7_nameOfWord_87 ?_
    refine z_getI (j := 21) dX7_nameOfWord_88 zf_X7_69 rfl rfl ?_
    have w2 : zR (σ.1 0 21) := hR.1 0 21
    refine z_sipush 150 dX7_nameOfWord_91 (by decide +kernel) ?_
    refine z_icmp_ne (tgt := 99) dX7_nameOfWord_94 (by decide) (by omega) ⟨by decide, by decide⟩ (fun c94 => ?_) (fun c94 => ?_)
    · refine z_iconst 0 dX7_nameOfWord_99 rfl ?_
      refine z_istore_1 dX7_nameOfWord_100 (Nat.le_of_ble_eq_true rfl) rfl ?_
      exact z_st zsB_0.symm (L_X7_nw3 hR hna0 hna1 hw0 hw1 (by omega) y2 y3 (h2 (fun j q0 q1 => hq j q0 (by omega)) (by omega)) (σ.1 0 29).toNat 0 (by omega) (by omega))
    · refine z_iconst (-1) dX7_nameOfWord_97 rfl ?_
      refine z_iret dX7_nameOfWord_98 rfl ?_
      exact h0 (fun j q0 q1 => hq j q0 (by omega)) (by omega)
  | succ m ih =>
    intro i y2 y3 hi0 hm hq
    have hnl1 := hnl i
    refine z_iload_1 dX7_nameOfWord_2 ?_
    refine z_aload_0 dX7_nameOfWord_3 ?_
    refine z_getI (j := 21) dX7_nameOfWord_4 zf_X7_69 rfl rfl ?_
    have w1 : zR (σ.1 0 21) := hR.1 0 21
    refine z_icmp_ge (tgt := 87) dX7_nameOfWord_7 (by decide) (by omega) (by omega) (fun c7 => by exfalso; omega) (fun c7 => ?_)
    refine z_aload_0 dX7_nameOfWord_10 ?_
    refine z_getR (j := 23) dX7_nameOfWord_11 zf_X7_60 rfl rfl ?_
    refine z_iload_1 dX7_nameOfWord_14 ?_
    refine z_iald dX7_nameOfWord_15 rfl (by decide) (by omega) (by omega) ?_
    have w2 : zR (σ.2 16 i) := hR.2 16 i
    refine z_aload_0 dX7_nameOfWord_16 ?_
    refine z_getI (j := 29) dX7_nameOfWord_17 zf_X7_122 rfl rfl ?_
    have w3 : zR (σ.1 0 29) := hR.1 0 29
    refine z_icmp_ne (tgt := 27) dX7_nameOfWord_20 (by decide) (by omega) (by omega) (fun c20 => ?_) (fun c20 => ?_)
    · refine z_iconst 0 dX7_nameOfWord_27 rfl ?_
      refine z_istore_2 dX7_nameOfWord_28 (Nat.le_of_ble_eq_true rfl) rfl ?_
      refine z_iconst 0 dX7_nameOfWord_29 rfl ?_
      refine z_istore_3 dX7_nameOfWord_30 (Nat.le_of_ble_eq_true rfl) rfl ?_
      refine z_iload_3 dX7_nameOfWord_31 ?_
      refine z_aload_0 dX7_nameOfWord_32 ?_
      refine z_getI (j := 29) dX7_nameOfWord_33 zf_X7_122 rfl rfl ?_
      have w4 : zR (σ.1 0 29) := hR.1 0 29
      refine z_icmp_ge (tgt := 75) dX7_nameOfWord_36 (by decide) ⟨by decide, by decide⟩ (by omega) (fun c36 => ?_) (fun c36 => ?_)
      · refine z_iload_2 dX7_nameOfWord_75 ?_
        refine z_if_eq (tgt := 81) dX7_nameOfWord_76 (by decide) ⟨by decide, by decide⟩ (fun c76 => ?_) (fun c76 => by exfalso; omega)
        refine z_iinc_1 dX7_nameOfWord_81 (Nat.le_of_ble_eq_true rfl) rfl ?_
        refine z_goto (tgt := 2) dX7_nameOfWord_84 (by decide) ?_
        exact ih (i + 1) _ _ (by omega) (by omega) (fun j q0 q1 => by
        rcases Decidable.em (j = i) with q | q
        · subst q; intro q2; exact c20 q2.1
        · exact hq j q0 (by omega))
      · refine z_iload_2 dX7_nameOfWord_39 ?_
        refine z_if_eq (tgt := 75) dX7_nameOfWord_40 (by decide) ⟨by decide, by decide⟩ (fun c40 => ?_) (fun c40 => by exfalso; omega)
        refine z_iload_2 dX7_nameOfWord_75 ?_
        refine z_if_eq (tgt := 81) dX7_nameOfWord_76 (by decide) ⟨by decide, by decide⟩ (fun c76 => ?_) (fun c76 => by exfalso; omega)
        refine z_iinc_1 dX7_nameOfWord_81 (Nat.le_of_ble_eq_true rfl) rfl ?_
        refine z_goto (tgt := 2) dX7_nameOfWord_84 (by decide) ?_
        exact ih (i + 1) _ _ (by omega) (by omega) (fun j q0 q1 => by
        rcases Decidable.em (j = i) with q | q
        · subst q; intro q2; exact c20 q2.1
        · exact hq j q0 (by omega))
    · refine z_iconst 1 dX7_nameOfWord_23 rfl ?_
      refine z_goto (tgt := 28) dX7_nameOfWord_24 (by decide) ?_
      refine z_istore_2 dX7_nameOfWord_28 (Nat.le_of_ble_eq_true rfl) rfl ?_
      refine z_iconst 0 dX7_nameOfWord_29 rfl ?_
      refine z_istore_3 dX7_nameOfWord_30 (Nat.le_of_ble_eq_true rfl) rfl ?_
      refine L_X7_nw1 i hi0 (by omega) hR hna0 hna1 hw0 hw1 c20 (fun q => h1 i hi0 (by omega) q hq) (fun q y2 y3 => ih (i + 1) y2 y3 (by omega) (by omega) (fun j q0 q1 => ?_)) (σ.1 0 29).toNat 0 (by omega) (by omega) (fun j q0 q1 => by omega)
      rcases Decidable.em (j = i) with q3 | q3
      · subst q3; exact q
      · exact hq j q0 (by omega)

set_option maxRecDepth 100000 in
theorem M_X7_nameOfWord {G : zG} {σ : zSt} {Post : Option Value → zSt → Prop} (hna0 : 0 ≤ σ.1 0 21) (hna1 : σ.1 0 21 ≤ 150) (hw0 : 0 ≤ σ.1 0 29) (hw1 : σ.1 0 29 ≤ 40) (hnl : ∀ q, 0 ≤ σ.2 16 q ∧ σ.2 16 q ≤ 40) (h1 : ∀ j, 0 ≤ j → j < σ.1 0 21 → zisW σ (σ.1 0 29) j → (∀ i, 0 ≤ i → i < j → ¬ zisW σ (σ.1 0 29) i) → Post (some (.int (zI j))) σ) (h2 : (∀ j, 0 ≤ j → j < σ.1 0 21 → ¬ zisW σ (σ.1 0 29) j) → σ.1 0 21 < 150 → Post (some (.int (zI (σ.1 0 21)))) (zsF (zsA (zsB σ 15 (40 * σ.1 0 21) (σ.1 0 29) (σ.2 18)) 16 (σ.1 0 21) (σ.1 0 29)) 0 21 (σ.1 0 21 + 1))) (h0 : (∀ j, 0 ≤ j → j < σ.1 0 21 → ¬ zisW σ (σ.1 0 29) j) → σ.1 0 21 = 150 → Post (some (.int (zI (-1)))) σ) : zV G shM mX7_nameOfWord 0 (zini 4 [.ref (zad G 0)]) [] σ Post := by
  refine z_rg (fun hR => ?_)
  refine z_lv (lv' := [some (.ref (zad G 0)), none, none, none]) rfl ?_
  refine z_iconst 0 dX7_nameOfWord_0 rfl ?_
  refine z_istore_1 dX7_nameOfWord_1 (Nat.le_of_ble_eq_true rfl) rfl ?_
  exact L_X7_nw2 hR hna0 hna1 hw0 hw1 hnl h1 h2 h0 (σ.1 0 21).toNat 0 none none (by omega) (by omega) (fun j q0 q1 => by omega)

def zbc (x : Int64) (n i : Int) : Int := ((x.toUInt64 >>> ((zI (8 * ((n - 1) - i))).toInt64.toUInt64 &&& Int64.toUInt64 63)).toInt64.toInt32 &&& zI 255).toInt
theorem zbc_R (x : Int64) (n i : Int) : zR (zbc x n i) := zR_toInt _

set_option maxRecDepth 100000 in
theorem L_X2_append {G : zG} {σ : zSt} {Post : Option Value → zSt → Prop} (f n row len : Int) (x : Int64) (hR : zRg σ) (hf : zR f) (hn1 : 1 ≤ n) (hn8 : n ≤ 8) (hr0 : 0 ≤ row) (hr1 : row < 240) (hl0 : 0 ≤ len) (hl1 : len + n ≤ 120) (h : Post (some (.int (zI (len + n)))) (zsA (zsB σ 12 (row * 120 + len) n (zbc x n)) 11 row (len + n))) : ∀ (m : Nat) (i : Int) (hi0 : 0 ≤ i) (him : i + m = n), zV G shC mX2_append 65 [some (.ref (zad G 3)), some (.int (zI f)), some (.long x), none, some (.int (zI n)), some (.int (zI row)), some (.int (zI len)), some (.int (zI i))] [] (zsB σ 12 (row * 120 + len) i (zbc x n)) Post := by
  intro m
  induction m with
  | zero =>
    intro i hi0 him
    refine z_iload_7 dX2_append_65 ?_
    refine z_iload_4 dX2_append_67 ?_
    refine z_icmp_ge (tgt := 110) dX2_append_69 (by decide) (by omega) (by omega) (fun c69 => ?_) (fun c69 => by exfalso; omega)
    refine z_aload_0 dX2_append_110 ?_
    refine z_getR (j := 1) dX2_append_111 zf_X2_15 rfl rfl ?_
    refine z_iload_5 dX2_append_114 ?_
    refine z_iload_6 dX2_append_116 ?_
    refine z_iload_4 dX2_append_118 ?_
    refine z_iadd dX2_append_120 ?_
    refine z_iast dX2_append_121 rfl (by decide) (by omega) (by omega) (by omega) ?_
    refine z_iload_6 dX2_append_122 ?_
    refine z_iload_4 dX2_append_124 ?_
    refine z_iadd dX2_append_126 ?_
    refine z_iret dX2_append_127 rfl ?_
    have e : i = n := by omega
    subst e
    exact h
  | succ m ih =>
    intro i hi0 him
    refine z_iload_7 dX2_append_65 ?_
    refine z_iload_4 dX2_append_67 ?_
    refine z_icmp_ge (tgt := 110) dX2_append_69 (by decide) (by omega) (by omega) (fun c69 => by exfalso; omega) (fun c69 => ?_)
    refine z_aload_0 dX2_append_72 ?_
    refine z_iload_5 dX2_append_73 ?_
    refine z_bipush 120 dX2_append_75 (by decide +kernel) ?_
    refine z_imul dX2_append_77 ?_
    refine z_iload_6 dX2_append_78 ?_
    refine z_iadd dX2_append_80 ?_
    refine z_iload_7 dX2_append_81 ?_
    refine z_iadd dX2_append_83 ?_
    refine z_lloadN (i := 2) dX2_append_84 rfl rfl ?_
    refine z_bipush 8 dX2_append_85 (by decide +kernel) ?_
    refine z_iload_4 dX2_append_87 ?_
    refine z_iconst 1 dX2_append_89 rfl ?_
    refine z_isub dX2_append_90 ?_
    refine z_iload_7 dX2_append_91 ?_
    refine z_isub dX2_append_93 ?_
    refine z_imul dX2_append_94 ?_
    refine z_lushr dX2_append_95 ?_
    refine z_l2i dX2_append_96 ?_
    refine z_sipush 255 dX2_append_97 (by decide +kernel) ?_
    refine z_iand dX2_append_100 ?_
    refine z_norm ?_
    have w1 := zR_toInt (((x.toUInt64 >>> ((zI (8 * ((n - 1) - i))).toInt64.toUInt64 &&& Int64.toUInt64 63)).toInt64).toInt32 &&& zI 255)
    refine z_callV mX2_putSign [.int (zI (((row * 120) + len) + i)), .int (zI ((((x.toUInt64 >>> ((zI (8 * ((n - 1) - i))).toInt64.toUInt64 &&& Int64.toUInt64 63)).toInt64).toInt32 &&& zI 255).toInt))] dX2_append_101 zk_X2_putSign zl_X2_33 ⟨Nat.le_of_ble_eq_true rfl, Nat.le_of_ble_eq_true rfl⟩ rfl rfl (Nat.le_of_ble_eq_true rfl) (Nat.le_of_ble_eq_true rfl) ?_
    refine M_X2_putSign (((row * 120) + len) + i) ((((x.toUInt64 >>> ((zI (8 * ((n - 1) - i))).toInt64.toUInt64 &&& Int64.toUInt64 63)).toInt64).toInt32 &&& zI 255).toInt) (by omega) (by omega) (by omega) ?_
    refine z_b0 ?_
    refine z_iinc_7 dX2_append_104 (Nat.le_of_ble_eq_true rfl) rfl ?_
    refine z_goto (tgt := 65) dX2_append_107 (by decide) ?_
    exact z_st (zsB_S hi0 (by omega) rfl) (ih (i + 1) (by omega) (by omega))

set_option maxRecDepth 100000 in
theorem M_X2_append {G : zG} {σ : zSt} {Post : Option Value → zSt → Prop} (f n : Int) (x : Int64) (hf0 : 0 ≤ f) (hf : f < σ.1 3 3) (h8 : σ.1 3 3 ≤ 8) (hn1 : 1 ≤ n) (hn8 : n ≤ 8) (hc0 : 0 ≤ σ.2 10 f) (hc1 : σ.2 10 f ≤ 30) (hlr : ∀ r, 0 ≤ σ.2 11 r ∧ σ.2 11 r ≤ 120) (h3 : σ.2 10 f = 0 → Post (some (.int (zI (-3)))) σ) (h4 : 0 < σ.2 10 f → 120 < σ.2 11 (f * 30 + σ.2 10 f - 1) + n → Post (some (.int (zI (-4)))) σ) (h1 : 0 < σ.2 10 f → σ.2 11 (f * 30 + σ.2 10 f - 1) + n ≤ 120 → Post (some (.int (zI (σ.2 11 (f * 30 + σ.2 10 f - 1) + n)))) (zsA (zsB σ 12 ((f * 30 + σ.2 10 f - 1) * 120 + σ.2 11 (f * 30 + σ.2 10 f - 1)) n (zbc x n)) 11 (f * 30 + σ.2 10 f - 1) (σ.2 11 (f * 30 + σ.2 10 f - 1) + n))) : zV G shC mX2_append 0 (zini 8 [.ref (zad G 3), .int (zI f), .long x, .int (zI n)]) [] σ Post := by
  refine z_rg (fun hR => ?_)
  refine z_lv (lv' := [some (.ref (zad G 3)), some (.int (zI f)), some (.long x), none, some (.int (zI n)), none, none, none]) rfl ?_
  have hlr1 := hlr (f * 30 + σ.2 10 f - 1)
  refine z_iload_1 dX2_append_0 ?_
  refine z_bipush 30 dX2_append_1 (by decide +kernel) ?_
  refine z_imul dX2_append_3 ?_
  refine z_aload_0 dX2_append_4 ?_
  refine z_iload_1 dX2_append_5 ?_
  refine z_callV mX2_lineCount [.int (zI f)] dX2_append_6 zk_X2_lineCount zl_X2_29 ⟨Nat.le_of_ble_eq_true rfl, Nat.le_of_ble_eq_true rfl⟩ rfl rfl (Nat.le_of_ble_eq_true rfl) (Nat.le_of_ble_eq_true rfl) ?_
  refine M_X2_lineCount f (by omega) (by omega) (fun i1 i2 => ?_) (fun i1 => by exfalso; omega)
  refine z_b1 ?_
  have w1 : zR (σ.2 10 f) := hR.2 10 f
  refine z_iadd dX2_append_9 ?_
  refine z_iconst 1 dX2_append_10 rfl ?_
  refine z_isub dX2_append_11 ?_
  refine z_istore_5 dX2_append_12 (Nat.le_of_ble_eq_true rfl) rfl ?_
  refine z_aload_0 dX2_append_14 ?_
  refine z_iload_1 dX2_append_15 ?_
  refine z_callV mX2_lineCount [.int (zI f)] dX2_append_16 zk_X2_lineCount zl_X2_29 ⟨Nat.le_of_ble_eq_true rfl, Nat.le_of_ble_eq_true rfl⟩ rfl rfl (Nat.le_of_ble_eq_true rfl) (Nat.le_of_ble_eq_true rfl) ?_
  refine M_X2_lineCount f (by omega) (by omega) (fun i1 i2 => ?_) (fun i1 => by exfalso; omega)
  refine z_b1 ?_
  have w2 : zR (σ.2 10 f) := hR.2 10 f
  refine z_if_le (tgt := 37) dX2_append_19 (by decide) (by omega) (fun c19 => ?_) (fun c19 => ?_)
  · refine z_bipush (-3) dX2_append_37 (by decide +kernel) ?_
    refine z_iret dX2_append_39 rfl ?_
    exact h3 (by omega)
  · refine z_iload_5 dX2_append_22 ?_
    refine z_if_lt (tgt := 37) dX2_append_24 (by decide) (by omega) (fun c24 => by exfalso; omega) (fun c24 => ?_)
    refine z_iload_5 dX2_append_27 ?_
    refine z_aload_0 dX2_append_29 ?_
    refine z_getR (j := 1) dX2_append_30 zf_X2_15 rfl rfl ?_
    refine z_alenI dX2_append_33 rfl ?_
    refine z_top (b := 240) rfl ?_
    refine z_icmp_lt (tgt := 40) dX2_append_34 (by decide) (by omega) ⟨by decide, by decide⟩ (fun c34 => ?_) (fun c34 => by exfalso; omega)
    refine z_aload_0 dX2_append_40 ?_
    refine z_getR (j := 1) dX2_append_41 zf_X2_15 rfl rfl ?_
    refine z_iload_5 dX2_append_44 ?_
    refine z_iald dX2_append_46 rfl (by decide) (by omega) (by omega) ?_
    have w3 : zR (σ.2 11 (((f * 30) + (σ.2 10 f)) - 1)) := hR.2 11 (((f * 30) + (σ.2 10 f)) - 1)
    refine z_istore_6 dX2_append_47 (Nat.le_of_ble_eq_true rfl) rfl ?_
    refine z_iload_6 dX2_append_49 ?_
    refine z_iload_4 dX2_append_51 ?_
    refine z_iadd dX2_append_53 ?_
    refine z_bipush 120 dX2_append_54 (by decide +kernel) ?_
    refine z_icmp_le (tgt := 62) dX2_append_56 (by decide) (by omega) ⟨by decide, by decide⟩ (fun c56 => ?_) (fun c56 => ?_)
    · refine z_iconst 0 dX2_append_62 rfl ?_
      refine z_istore_7 dX2_append_63 (Nat.le_of_ble_eq_true rfl) rfl ?_
      exact z_st zsB_0.symm (L_X2_append _ _ _ _ _ hR (by omega) hn1 hn8 (by omega) (by omega) (by omega) (by omega) (h1 (by omega) (by omega)) n.toNat 0 (by omega) (by omega))
    · refine z_bipush (-4) dX2_append_59 (by decide +kernel) ?_
      refine z_iret dX2_append_61 rfl ?_
      exact h4 (by omega) (by omega)

def ztr (g : Int → Int) : Nat → Nat
  | 0 => 0
  | n + 1 => if g n = 32 then ztr g n else n + 1
theorem ztr_eq {g : Int → Int} {n : Nat} (h : g n = 32) : ztr g (n + 1) = ztr g n := if_pos h
theorem ztr_ne {g : Int → Int} {n : Nat} (h : g n ≠ 32) : ztr g (n + 1) = n + 1 := if_neg h
theorem ztr_le (g : Int → Int) : ∀ n, ztr g n ≤ n
  | 0 => Nat.le_refl 0
  | n + 1 => by rw [ztr]; split; exact Nat.le_succ_of_le (ztr_le g n); exact Nat.le_refl _

set_option maxRecDepth 100000 in
theorem L_X2_copy1 {G : zG} {σ : zSt} {Post : Option Value → zSt → Prop} (f l row fr : Int) (t : Nat) (ht : t < 6) (hR : zRg σ) (hf : 0 ≤ fr) (hf1 : fr + 120 ≤ 28800) : ∀ (m : Nat) (L : Int) (hL : L = (m : Int)) (hm : m ≤ 120) (h : zV G shC mX2_copyLine 76 [some (.ref (zad G 3)), some (.int (zI f)), some (.int (zI l)), some (.ref (zad G (24 + t))), some (.int (zI row)), some (.int (zI fr)), some (.int (zI ((ztr (fun q => σ.2 12 (fr + q)) m : Nat) : Int))), none] [] σ Post), zV G shC mX2_copyLine 49 [some (.ref (zad G 3)), some (.int (zI f)), some (.int (zI l)), some (.ref (zad G (24 + t))), some (.int (zI row)), some (.int (zI fr)), some (.int (zI L)), none] [] σ Post := by
  intro m
  induction m with
  | zero =>
    intro L hL hm h
    refine z_iload_6 dX2_copyLine_49 ?_
    refine z_if_le (tgt := 76) dX2_copyLine_51 (by decide) (by omega) (fun c51 => ?_) (fun c51 => by exfalso; omega)
    have e : ((ztr (fun q => σ.2 12 (fr + q)) 0 : Nat) : Int) = L := by rw [ztr]; omega
    rw [e] at h
    exact h
  | succ m ih =>
    intro L hL hm h
    refine z_iload_6 dX2_copyLine_49 ?_
    refine z_if_le (tgt := 76) dX2_copyLine_51 (by decide) (by omega) (fun c51 => by exfalso; omega) (fun c51 => ?_)
    refine z_aload_0 dX2_copyLine_54 ?_
    refine z_iload_5 dX2_copyLine_55 ?_
    refine z_iload_6 dX2_copyLine_57 ?_
    refine z_iadd dX2_copyLine_59 ?_
    refine z_iconst 1 dX2_copyLine_60 rfl ?_
    refine z_isub dX2_copyLine_61 ?_
    refine z_callV mX2_signAt [.int (zI ((fr + L) - 1))] dX2_copyLine_62 zk_X2_signAt zl_X2_37 ⟨Nat.le_of_ble_eq_true rfl, Nat.le_of_ble_eq_true rfl⟩ rfl rfl (Nat.le_of_ble_eq_true rfl) (Nat.le_of_ble_eq_true rfl) ?_
    refine M_X2_signAt ((fr + L) - 1) (by omega) (by omega) ?_
    refine z_b1 ?_
    have w1 : zR (σ.2 12 ((fr + L) - 1)) := hR.2 12 ((fr + L) - 1)
    refine z_bipush 32 dX2_copyLine_65 (by decide +kernel) ?_
    refine z_icmp_ne (tgt := 76) dX2_copyLine_67 (by decide) (by omega) ⟨by decide, by decide⟩ (fun c67 => ?_) (fun c67 => ?_)
    · have e0 : σ.2 12 (fr + (m : Int)) ≠ 32 := by rw [show fr + (m : Int) = fr + L - 1 by omega]; omega
      have e : ((ztr (fun q => σ.2 12 (fr + q)) (m + 1) : Nat) : Int) = L := by rw [ztr_ne e0]; omega
      rw [e] at h
      exact h
    · refine z_iinc_6 dX2_copyLine_70 (Nat.le_of_ble_eq_true rfl) rfl ?_
      refine z_goto (tgt := 49) dX2_copyLine_73 (by decide) ?_
      have e0 : σ.2 12 (fr + (m : Int)) = 32 := by rw [show fr + (m : Int) = fr + L - 1 by omega]; omega
      rw [ztr_eq e0] at h
      exact ih (L + (-1)) (by omega) (by omega) h

set_option maxRecDepth 100000 in
theorem L_X2_copy2 {G : zG} {σ : zSt} {Post : Option Value → zSt → Prop} (f l row fr L : Int) (t : Nat) (ht : t < 6) (hR : zRg σ) (hf : 0 ≤ fr) (hf1 : fr + 120 ≤ 28800) (hL0 : 0 ≤ L) (hL : L ≤ 120) (h : Post (some (.int (zI L))) (zsB σ (24 + t) 0 L (fun q => σ.2 12 (fr + q)))) : ∀ (m : Nat) (i : Int) (hi0 : 0 ≤ i) (him : i + m = L), zV G shC mX2_copyLine 79 [some (.ref (zad G 3)), some (.int (zI f)), some (.int (zI l)), some (.ref (zad G (24 + t))), some (.int (zI row)), some (.int (zI fr)), some (.int (zI L)), some (.int (zI i))] [] (zsB σ (24 + t) 0 i (fun q => σ.2 12 (fr + q))) Post := by
  intro m
  induction m with
  | zero =>
    intro i hi0 him
    refine z_iload_7 dX2_copyLine_79 ?_
    refine z_iload_6 dX2_copyLine_81 ?_
    refine z_icmp_ge (tgt := 112) dX2_copyLine_83 (by decide) (by omega) (by omega) (fun c83 => ?_) (fun c83 => by exfalso; omega)
    refine z_iload_6 dX2_copyLine_112 ?_
    refine z_iret dX2_copyLine_114 rfl ?_
    have e : i = L := by omega
    subst e
    exact h
  | succ m ih =>
    intro i hi0 him
    refine z_iload_7 dX2_copyLine_79 ?_
    refine z_iload_6 dX2_copyLine_81 ?_
    refine z_icmp_ge (tgt := 112) dX2_copyLine_83 (by decide) (by omega) (by omega) (fun c83 => by exfalso; omega) (fun c83 => ?_)
    refine z_iload_7 dX2_copyLine_86 ?_
    refine z_aload_3 dX2_copyLine_88 ?_
    refine z_alenI dX2_copyLine_89 (shC_la ht) ?_
    refine z_top (b := 121) rfl ?_
    refine z_icmp_ge (tgt := 112) dX2_copyLine_90 (by decide) (by omega) ⟨by decide, by decide⟩ (fun c90 => by exfalso; omega) (fun c90 => ?_)
    refine z_aload_3 dX2_copyLine_93 ?_
    refine z_iload_7 dX2_copyLine_94 ?_
    refine z_aload_0 dX2_copyLine_96 ?_
    refine z_iload_5 dX2_copyLine_97 ?_
    refine z_iload_7 dX2_copyLine_99 ?_
    refine z_iadd dX2_copyLine_101 ?_
    refine z_callV mX2_signAt [.int (zI (fr + i))] dX2_copyLine_102 zk_X2_signAt zl_X2_37 ⟨Nat.le_of_ble_eq_true rfl, Nat.le_of_ble_eq_true rfl⟩ rfl rfl (Nat.le_of_ble_eq_true rfl) (Nat.le_of_ble_eq_true rfl) ?_
    refine M_X2_signAt (fr + i) (by omega) (by omega) ?_
    refine z_b1 ?_
    refine z_top (b := σ.2 12 (fr + i)) (zsB_ne1 (by omega)) ?_
    have w1 : zR (σ.2 12 (fr + i)) := hR.2 12 (fr + i)
    refine z_iast dX2_copyLine_105 (shC_la ht) (by decide) (by omega) (by omega) (by omega) ?_
    refine z_iinc_7 dX2_copyLine_106 (Nat.le_of_ble_eq_true rfl) rfl ?_
    refine z_goto (tgt := 79) dX2_copyLine_109 (by decide) ?_
    exact z_st (zsB_S hi0 (by omega) rfl) (ih (i + 1) (by omega) (by omega))

set_option maxRecDepth 100000 in
theorem M_X2_copyLine {G : zG} {σ : zSt} {Post : Option Value → zSt → Prop} (f l : Int) (t : Nat) (ht : t < 6) (hf0 : 0 ≤ f) (hf : f < σ.1 3 3) (h8 : σ.1 3 3 ≤ 8) (hl0 : 0 ≤ l) (hl : l < σ.2 10 f) (hc1 : σ.2 10 f ≤ 30) (hlr : ∀ r, 0 ≤ σ.2 11 r ∧ σ.2 11 r ≤ 120) (h : Post (some (.int (zI ((ztr (fun q => σ.2 12 ((f * 30 + l) * 120 + q)) (σ.2 11 (f * 30 + l)).toNat : Nat) : Int)))) (zsB σ (24 + t) 0 ((ztr (fun q => σ.2 12 ((f * 30 + l) * 120 + q)) (σ.2 11 (f * 30 + l)).toNat : Nat) : Int) (fun q => σ.2 12 ((f * 30 + l) * 120 + q)))) : zV G shC mX2_copyLine 0 (zini 8 [.ref (zad G 3), .int (zI f), .int (zI l), .ref (zad G (24 + t))]) [] σ Post := by
  refine z_rg (fun hR => ?_)
  refine z_lv (lv' := [some (.ref (zad G 3)), some (.int (zI f)), some (.int (zI l)), some (.ref (zad G (24 + t))), none, none, none, none]) rfl ?_
  have hlr1 := hlr (f * 30 + l)
  refine z_iload_1 dX2_copyLine_0 ?_
  refine z_bipush 30 dX2_copyLine_1 (by decide +kernel) ?_
  refine z_imul dX2_copyLine_3 ?_
  refine z_iload_2 dX2_copyLine_4 ?_
  refine z_iadd dX2_copyLine_5 ?_
  refine z_istore_4 dX2_copyLine_6 (Nat.le_of_ble_eq_true rfl) rfl ?_
  refine z_iload_2 dX2_copyLine_8 ?_
  refine z_if_lt (tgt := 31) dX2_copyLine_9 (by decide) (by omega) (fun c9 => by exfalso; omega) (fun c9 => ?_)
  refine z_iload_2 dX2_copyLine_12 ?_
  refine z_aload_0 dX2_copyLine_13 ?_
  refine z_iload_1 dX2_copyLine_14 ?_
  refine z_callV mX2_lineCount [.int (zI f)] dX2_copyLine_15 zk_X2_lineCount zl_X2_29 ⟨Nat.le_of_ble_eq_true rfl, Nat.le_of_ble_eq_true rfl⟩ rfl rfl (Nat.le_of_ble_eq_true rfl) (Nat.le_of_ble_eq_true rfl) ?_
  refine M_X2_lineCount f (by omega) (by omega) (fun i1 i2 => ?_) (fun i1 => by exfalso; omega)
  refine z_b1 ?_
  have w1 : zR (σ.2 10 f) := hR.2 10 f
  refine z_icmp_ge (tgt := 31) dX2_copyLine_18 (by decide) (by omega) (by omega) (fun c18 => by exfalso; omega) (fun c18 => ?_)
  refine z_iload_4 dX2_copyLine_21 ?_
  refine z_aload_0 dX2_copyLine_23 ?_
  refine z_getR (j := 1) dX2_copyLine_24 zf_X2_15 rfl rfl ?_
  refine z_alenI dX2_copyLine_27 rfl ?_
  refine z_top (b := 240) rfl ?_
  refine z_icmp_lt (tgt := 33) dX2_copyLine_28 (by decide) (by omega) ⟨by decide, by decide⟩ (fun c28 => ?_) (fun c28 => by exfalso; omega)
  refine z_iload_4 dX2_copyLine_33 ?_
  refine z_bipush 120 dX2_copyLine_35 (by decide +kernel) ?_
  refine z_imul dX2_copyLine_37 ?_
  refine z_istore_5 dX2_copyLine_38 (Nat.le_of_ble_eq_true rfl) rfl ?_
  refine z_aload_0 dX2_copyLine_40 ?_
  refine z_getR (j := 1) dX2_copyLine_41 zf_X2_15 rfl rfl ?_
  refine z_iload_4 dX2_copyLine_44 ?_
  refine z_iald dX2_copyLine_46 rfl (by decide) (by omega) (by omega) ?_
  have w2 : zR (σ.2 11 ((f * 30) + l)) := hR.2 11 ((f * 30) + l)
  refine z_istore_6 dX2_copyLine_47 (Nat.le_of_ble_eq_true rfl) rfl ?_
  have hz := ztr_le (fun q => σ.2 12 ((f * 30 + l) * 120 + q)) (σ.2 11 (f * 30 + l)).toNat
  refine L_X2_copy1 f l (f * 30 + l) ((f * 30 + l) * 120) t ht hR (by omega) (by omega) (σ.2 11 (f * 30 + l)).toNat (σ.2 11 (f * 30 + l)) (by omega) (by omega) ?_
  refine z_iconst 0 dX2_copyLine_76 rfl ?_
  refine z_istore_7 dX2_copyLine_77 (Nat.le_of_ble_eq_true rfl) rfl ?_
  exact z_st zsB_0.symm (L_X2_copy2 f l (f * 30 + l) ((f * 30 + l) * 120) _ t ht hR (by omega) (by omega) (by omega) (by omega) h (ztr (fun q => σ.2 12 ((f * 30 + l) * 120 + q)) (σ.2 11 (f * 30 + l)).toNat) 0 (by omega) (by omega))

def zseeP (cats row : Int → Int) (len s b : Int) : Prop := zat cats s = 7 ∧ zst row len b = s ∧ 0 ≤ zst row len (b + 1) ∧ zst row len (b + 1) < 128
theorem zst_lt {row : Int → Int} {len p : Int} (h : 0 ≤ zst row len p) : 0 ≤ p ∧ p < len := by unfold zst at h; split at h <;> omega
def zsee (cats row : Int → Int) (len : Int) : Nat → Int → Int → Int × Int
  | 0, s, b => (s, b)
  | n + 1, s, b => if zat cats s = 7 ∧ zst row len b = s ∧ 0 ≤ zst row len (b + 1) ∧ zst row len (b + 1) < 128 then (if 0 ≤ zdig (zst row len (b + 1)) ∧ 0 ≤ zdig (zst row len (b + 2)) then zsee cats row len n (16 * zdig (zst row len (b + 1)) + zdig (zst row len (b + 2))) (b + 3) else zsee cats row len n (if zst row len (b + 1) < 64 then zst row len (b + 1) + 64 else zst row len (b + 1) - 64) (b + 2)) else (s, b)

section zSee
variable {cats row : Int → Int} {len s b : Int} {n : Nat}
theorem zsee_0 (h : ¬ zseeP cats row len s b) : zsee cats row len n s b = (s, b) := by
  cases n with
  | zero => rfl
  | succ n => exact if_neg h
theorem zsee_1 (h : zseeP cats row len s b) (h1 : 0 ≤ zdig (zst row len (b + 1))) (h2 : 0 ≤ zdig (zst row len (b + 2))) : zsee cats row len (n + 1) s b = zsee cats row len n (16 * zdig (zst row len (b + 1)) + zdig (zst row len (b + 2))) (b + 3) := (if_pos h).trans (if_pos ⟨h1, h2⟩)
theorem zsee_2 (h : zseeP cats row len s b) (h1 : ¬ (0 ≤ zdig (zst row len (b + 1)) ∧ 0 ≤ zdig (zst row len (b + 2)))) (h2 : zst row len (b + 1) < 64) : zsee cats row len (n + 1) s b = zsee cats row len n (zst row len (b + 1) + 64) (b + 2) := (if_pos h).trans ((if_neg h1).trans (congrArg (fun q => zsee cats row len n q (b + 2)) (if_pos h2)))
theorem zsee_3 (h : zseeP cats row len s b) (h1 : ¬ (0 ≤ zdig (zst row len (b + 1)) ∧ 0 ≤ zdig (zst row len (b + 2)))) (h2 : 64 ≤ zst row len (b + 1)) : zsee cats row len (n + 1) s b = zsee cats row len n (zst row len (b + 1) - 64) (b + 2) := (if_pos h).trans ((if_neg h1).trans (congrArg (fun q => zsee cats row len n q (b + 2)) (if_neg (by omega))))
end zSee
theorem zsF_2 {σ : zSt} {i j k : Nat} {s b s' b' : Int} (h : j ≠ k) : zsF (zsF (zsF (zsF σ i j s) i k b) i j s') i k b' = zsF (zsF σ i j s') i k b' := by
  refine Prod.ext (funext fun a => funext fun c => ?_) rfl
  show (if a = i ∧ c = k then b' else if a = i ∧ c = j then s' else if a = i ∧ c = k then b else if a = i ∧ c = j then s else σ.1 a c) = (if a = i ∧ c = k then b' else if a = i ∧ c = j then s' else σ.1 a c)
  by_cases h1 : a = i ∧ c = k
  · rw [if_pos h1, if_pos h1]
  · by_cases h2 : a = i ∧ c = j
    · rw [if_neg h1, if_pos h2, if_neg h1, if_pos h2]
    · rw [if_neg h1, if_neg h2, if_neg h1, if_neg h2, if_neg h1, if_neg h2]
theorem zsF_neg1 {σ : zSt} {i j k : Nat} {s b s' : Int} (h : j ≠ k) : zsF (zsF (zsF σ i j s) i k b) i j s' = zsF (zsF σ i j s') i k b := by
  refine Prod.ext (funext fun a => funext fun c => ?_) rfl
  show (if a = i ∧ c = j then s' else if a = i ∧ c = k then b else if a = i ∧ c = j then s else σ.1 a c) = (if a = i ∧ c = k then b else if a = i ∧ c = j then s' else σ.1 a c)
  by_cases h1 : a = i ∧ c = k
  · rw [if_neg (fun q => h (q.2.symm.trans h1.2)), if_pos h1, if_pos h1]
  · by_cases h2 : a = i ∧ c = j
    · rw [if_pos h2, if_neg h1, if_pos h2]
    · rw [if_neg h2, if_neg h1, if_neg h2, if_neg h1, if_neg h2]

set_option maxRecDepth 100000 in
theorem M_X1_tellsAnother {G : zG} {σ : zSt} {Post : Option Value → zSt → Prop} (t : Nat) (ht : t < 6) (hl : σ.1 (18 + t) 5 ≤ 121) (hb0 : 0 ≤ σ.1 (18 + t) 9) (hb1 : σ.1 (18 + t) 9 ≤ 200) (h1 : zseeP (σ.2 8) (σ.2 (24 + t)) (σ.1 (18 + t) 5) (σ.1 (18 + t) 8) (σ.1 (18 + t) 9) → Post (some (.int (zI 1))) σ) (h0 : ¬ zseeP (σ.2 8) (σ.2 (24 + t)) (σ.1 (18 + t) 5) (σ.1 (18 + t) 8) (σ.1 (18 + t) 9) → Post (some (.int (zI 0))) σ) : zV G shC mX1_tellsAnother 0 (zini 3 [.ref (zad G (18 + t)), .ref (zad G 1)]) [] σ Post := by
  refine z_rg (fun hR => ?_)
  refine z_lv (lv' := [some (.ref (zad G (18 + t))), some (.ref (zad G 1)), none]) rfl ?_
  refine z_aload_1 dX1_tellsAnother_0 ?_
  refine z_aload_0 dX1_tellsAnother_1 ?_
  refine z_getI (j := 8) dX1_tellsAnother_2 zf_X1_48 (shC_lv ht) rfl ?_
  have w1 : zR (σ.1 (18 + t) 8) := hR.1 (18 + t) 8
  refine z_callV mX0_at [.int (zI (σ.1 (18 + t) 8))] dX1_tellsAnother_5 zk_X0_at zl_X1_61 ⟨Nat.le_of_ble_eq_true rfl, Nat.le_of_ble_eq_true rfl⟩ rfl rfl (Nat.le_of_ble_eq_true rfl) (Nat.le_of_ble_eq_true rfl) ?_
  refine M_X0_at (σ.1 (18 + t) 8) (by omega) ?_
  refine z_b1 ?_
  have w2 := zat_R (σ.2 8) (σ.1 (18 + t) 8) (fun q => hR.2 8 q)
  refine z_bipush 7 dX1_tellsAnother_8 (by decide +kernel) ?_
  refine z_icmp_ne (tgt := 28) dX1_tellsAnother_10 (by decide) (by omega) ⟨by decide, by decide⟩ (fun c10 => ?_) (fun c10 => ?_)
  · refine z_iconst 0 dX1_tellsAnother_28 rfl ?_
    refine z_zret dX1_tellsAnother_29 rfl (Or.inl rfl) ?_
    exact h0 (by unfold zseeP; omega)
  · refine z_aload_0 dX1_tellsAnother_13 ?_
    refine z_aload_0 dX1_tellsAnother_14 ?_
    refine z_getI (j := 9) dX1_tellsAnother_15 zf_X1_51 (shC_lv ht) rfl ?_
    have w3 : zR (σ.1 (18 + t) 9) := hR.1 (18 + t) 9
    refine z_callV mX1_standing [.int (zI (σ.1 (18 + t) 9))] dX1_tellsAnother_18 zk_X1_standing zl_X1_44 ⟨Nat.le_of_ble_eq_true rfl, Nat.le_of_ble_eq_true rfl⟩ (shC_lv ht) rfl (Nat.le_of_ble_eq_true rfl) (Nat.le_of_ble_eq_true rfl) ?_
    refine M_X1_standing t (σ.1 (18 + t) 9) ht (by omega) (by omega) ?_
    refine z_b1 ?_
    have w4 := zst_R (σ.2 (24 + t)) (σ.1 (18 + t) 5) (σ.1 (18 + t) 9) (fun q => hR.2 (24 + t) q)
    refine z_aload_0 dX1_tellsAnother_21 ?_
    refine z_getI (j := 8) dX1_tellsAnother_22 zf_X1_48 (shC_lv ht) rfl ?_
    have w5 : zR (σ.1 (18 + t) 8) := hR.1 (18 + t) 8
    refine z_icmp_eq (tgt := 30) dX1_tellsAnother_25 (by decide) (by omega) (by omega) (fun c25 => ?_) (fun c25 => ?_)
    · refine z_aload_0 dX1_tellsAnother_30 ?_
      refine z_aload_0 dX1_tellsAnother_31 ?_
      refine z_getI (j := 9) dX1_tellsAnother_32 zf_X1_51 (shC_lv ht) rfl ?_
      have w6 : zR (σ.1 (18 + t) 9) := hR.1 (18 + t) 9
      refine z_iconst 1 dX1_tellsAnother_35 rfl ?_
      refine z_iadd dX1_tellsAnother_36 ?_
      refine z_callV mX1_standing [.int (zI ((σ.1 (18 + t) 9) + 1))] dX1_tellsAnother_37 zk_X1_standing zl_X1_44 ⟨Nat.le_of_ble_eq_true rfl, Nat.le_of_ble_eq_true rfl⟩ (shC_lv ht) rfl (Nat.le_of_ble_eq_true rfl) (Nat.le_of_ble_eq_true rfl) ?_
      refine M_X1_standing t ((σ.1 (18 + t) 9) + 1) ht (by omega) (by omega) ?_
      refine z_b1 ?_
      have w7 := zst_R (σ.2 (24 + t)) (σ.1 (18 + t) 5) ((σ.1 (18 + t) 9) + 1) (fun q => hR.2 (24 + t) q)
      refine z_istore_2 dX1_tellsAnother_40 (Nat.le_of_ble_eq_true rfl) rfl ?_
      refine z_iload_2 dX1_tellsAnother_41 ?_
      refine z_if_lt (tgt := 56) dX1_tellsAnother_42 (by decide) (by omega) (fun c42 => ?_) (fun c42 => ?_)
      · refine z_iconst 0 dX1_tellsAnother_56 rfl ?_
        refine z_zret dX1_tellsAnother_57 rfl (Or.inl rfl) ?_
        exact h0 (by unfold zseeP; omega)
      · refine z_iload_2 dX1_tellsAnother_45 ?_
        refine z_sipush 128 dX1_tellsAnother_46 (by decide +kernel) ?_
        refine z_icmp_ge (tgt := 56) dX1_tellsAnother_49 (by decide) (by omega) ⟨by decide, by decide⟩ (fun c49 => ?_) (fun c49 => ?_)
        · refine z_iconst 0 dX1_tellsAnother_56 rfl ?_
          refine z_zret dX1_tellsAnother_57 rfl (Or.inl rfl) ?_
          exact h0 (by unfold zseeP; omega)
        · refine z_iconst 1 dX1_tellsAnother_52 rfl ?_
          refine z_goto (tgt := 57) dX1_tellsAnother_53 (by decide) ?_
          refine z_zret dX1_tellsAnother_57 rfl (Or.inr rfl) ?_
          exact h1 ⟨by omega, by omega, by omega, by omega⟩
    · refine z_iconst 0 dX1_tellsAnother_28 rfl ?_
      refine z_zret dX1_tellsAnother_29 rfl (Or.inl rfl) ?_
      exact h0 (by unfold zseeP; omega)

set_option maxRecDepth 100000 in
theorem M_X1_tellAnother {G : zG} {σ : zSt} {Post : Option Value → zSt → Prop} (t : Nat) (ht : t < 6) (hl : σ.1 (18 + t) 5 ≤ 121) (hb0 : 0 ≤ σ.1 (18 + t) 9) (hb1 : σ.1 (18 + t) 9 ≤ 200) (hp : zseeP (σ.2 8) (σ.2 (24 + t)) (σ.1 (18 + t) 5) (σ.1 (18 + t) 8) (σ.1 (18 + t) 9)) (h1 : 0 ≤ zdig (zst (σ.2 (24 + t)) (σ.1 (18 + t) 5) (σ.1 (18 + t) 9 + 1)) → 0 ≤ zdig (zst (σ.2 (24 + t)) (σ.1 (18 + t) 5) (σ.1 (18 + t) 9 + 2)) → Post none (zsF (zsF σ (18 + t) 8 (16 * zdig (zst (σ.2 (24 + t)) (σ.1 (18 + t) 5) (σ.1 (18 + t) 9 + 1)) + zdig (zst (σ.2 (24 + t)) (σ.1 (18 + t) 5) (σ.1 (18 + t) 9 + 2)))) (18 + t) 9 (σ.1 (18 + t) 9 + 3))) (h2 : ¬ (0 ≤ zdig (zst (σ.2 (24 + t)) (σ.1 (18 + t) 5) (σ.1 (18 + t) 9 + 1)) ∧ 0 ≤ zdig (zst (σ.2 (24 + t)) (σ.1 (18 + t) 5) (σ.1 (18 + t) 9 + 2))) → zst (σ.2 (24 + t)) (σ.1 (18 + t) 5) (σ.1 (18 + t) 9 + 1) < 64 → Post none (zsF (zsF σ (18 + t) 8 (zst (σ.2 (24 + t)) (σ.1 (18 + t) 5) (σ.1 (18 + t) 9 + 1) + 64)) (18 + t) 9 (σ.1 (18 + t) 9 + 2))) (h3 : ¬ (0 ≤ zdig (zst (σ.2 (24 + t)) (σ.1 (18 + t) 5) (σ.1 (18 + t) 9 + 1)) ∧ 0 ≤ zdig (zst (σ.2 (24 + t)) (σ.1 (18 + t) 5) (σ.1 (18 + t) 9 + 2))) → 64 ≤ zst (σ.2 (24 + t)) (σ.1 (18 + t) 5) (σ.1 (18 + t) 9 + 1) → Post none (zsF (zsF σ (18 + t) 8 (zst (σ.2 (24 + t)) (σ.1 (18 + t) 5) (σ.1 (18 + t) 9 + 1) - 64)) (18 + t) 9 (σ.1 (18 + t) 9 + 2))) : zV G shC mX1_tellAnother 0 (zini 4 [.ref (zad G (18 + t))]) [] σ Post := by
  refine z_rg (fun hR => ?_)
  refine z_lv (lv' := [some (.ref (zad G (18 + t))), none, none, none]) rfl ?_
  obtain ⟨hp1, hp2, hp3, hp4⟩ := hp
  refine z_aload_0 dX1_tellAnother_0 ?_
  refine z_aload_0 dX1_tellAnother_1 ?_
  refine z_getI (j := 9) dX1_tellAnother_2 zf_X1_51 (shC_lv ht) rfl ?_
  have w1 : zR (σ.1 (18 + t) 9) := hR.1 (18 + t) 9
  refine z_iconst 1 dX1_tellAnother_5 rfl ?_
  refine z_iadd dX1_tellAnother_6 ?_
  refine z_callV mX1_standing [.int (zI ((σ.1 (18 + t) 9) + 1))] dX1_tellAnother_7 zk_X1_standing zl_X1_44 ⟨Nat.le_of_ble_eq_true rfl, Nat.le_of_ble_eq_true rfl⟩ (shC_lv ht) rfl (Nat.le_of_ble_eq_true rfl) (Nat.le_of_ble_eq_true rfl) ?_
  refine M_X1_standing t ((σ.1 (18 + t) 9) + 1) ht (by omega) (by omega) ?_
  refine z_b1 ?_
  have w2 := zst_R (σ.2 (24 + t)) (σ.1 (18 + t) 5) ((σ.1 (18 + t) 9) + 1) (fun q => hR.2 (24 + t) q)
  refine z_istore_1 dX1_tellAnother_10 (Nat.le_of_ble_eq_true rfl) rfl ?_
  refine z_iload_1 dX1_tellAnother_11 ?_
  refine z_callS mX1_digit [.int (zI (zst (σ.2 (24 + t)) (σ.1 (18 + t) 5) ((σ.1 (18 + t) 9) + 1)))] dX1_tellAnother_12 zk_X1_digit zl_X1_66 ⟨Nat.le_of_ble_eq_true rfl, Nat.le_of_ble_eq_true rfl⟩ (Nat.le_of_ble_eq_true rfl) (Nat.le_of_ble_eq_true rfl) ?_
  refine M_X1_digit (zst (σ.2 (24 + t)) (σ.1 (18 + t) 5) ((σ.1 (18 + t) 9) + 1)) (by omega) ?_
  refine z_b1 ?_
  have w3 := zdig_R (zst (σ.2 (24 + t)) (σ.1 (18 + t) 5) ((σ.1 (18 + t) 9) + 1))
  refine z_istore_2 dX1_tellAnother_15 (Nat.le_of_ble_eq_true rfl) rfl ?_
  refine z_aload_0 dX1_tellAnother_16 ?_
  refine z_aload_0 dX1_tellAnother_17 ?_
  refine z_getI (j := 9) dX1_tellAnother_18 zf_X1_51 (shC_lv ht) rfl ?_
  have w4 : zR (σ.1 (18 + t) 9) := hR.1 (18 + t) 9
  refine z_iconst 2 dX1_tellAnother_21 rfl ?_
  refine z_iadd dX1_tellAnother_22 ?_
  refine z_callV mX1_standing [.int (zI ((σ.1 (18 + t) 9) + 2))] dX1_tellAnother_23 zk_X1_standing zl_X1_44 ⟨Nat.le_of_ble_eq_true rfl, Nat.le_of_ble_eq_true rfl⟩ (shC_lv ht) rfl (Nat.le_of_ble_eq_true rfl) (Nat.le_of_ble_eq_true rfl) ?_
  refine M_X1_standing t ((σ.1 (18 + t) 9) + 2) ht (by omega) (by omega) ?_
  refine z_b1 ?_
  have w5 := zst_R (σ.2 (24 + t)) (σ.1 (18 + t) 5) ((σ.1 (18 + t) 9) + 2) (fun q => hR.2 (24 + t) q)
  refine z_callS mX1_digit [.int (zI (zst (σ.2 (24 + t)) (σ.1 (18 + t) 5) ((σ.1 (18 + t) 9) + 2)))] dX1_tellAnother_26 zk_X1_digit zl_X1_66 ⟨Nat.le_of_ble_eq_true rfl, Nat.le_of_ble_eq_true rfl⟩ (Nat.le_of_ble_eq_true rfl) (Nat.le_of_ble_eq_true rfl) ?_
  refine M_X1_digit (zst (σ.2 (24 + t)) (σ.1 (18 + t) 5) ((σ.1 (18 + t) 9) + 2)) (by omega) ?_
  refine z_b1 ?_
  have w6 := zdig_R (zst (σ.2 (24 + t)) (σ.1 (18 + t) 5) ((σ.1 (18 + t) 9) + 2))
  refine z_istore_3 dX1_tellAnother_29 (Nat.le_of_ble_eq_true rfl) rfl ?_
  refine z_iload_2 dX1_tellAnother_30 ?_
  refine z_if_lt (tgt := 61) dX1_tellAnother_31 (by decide) (by omega) (fun c31 => ?_) (fun c31 => ?_)
  · refine z_aload_0 dX1_tellAnother_61 ?_
    refine z_iload_1 dX1_tellAnother_62 ?_
    refine z_bipush 64 dX1_tellAnother_63 (by decide +kernel) ?_
    refine z_icmp_ge (tgt := 75) dX1_tellAnother_65 (by decide) (by omega) ⟨by decide, by decide⟩ (fun c65 => ?_) (fun c65 => ?_)
    · refine z_iload_1 dX1_tellAnother_75 ?_
      refine z_bipush 64 dX1_tellAnother_76 (by decide +kernel) ?_
      refine z_isub dX1_tellAnother_78 ?_
      refine z_putI (j := 8) dX1_tellAnother_79 zp_X1_48 (shC_lv ht) rfl (by omega) ?_
      refine z_aload_0 dX1_tellAnother_82 ?_
      refine z_dup dX1_tellAnother_83 rfl ?_
      refine z_getI (j := 9) dX1_tellAnother_84 zf_X1_51 (shC_lv ht) rfl ?_
      refine z_top (b := σ.1 (18 + t) 9) (zsF_ne (by omega)) ?_
      have w7 : zR (σ.1 (18 + t) 9) := hR.1 (18 + t) 9
      refine z_iconst 2 dX1_tellAnother_87 rfl ?_
      refine z_iadd dX1_tellAnother_88 ?_
      refine z_putI (j := 9) dX1_tellAnother_89 zp_X1_51 (shC_lv ht) rfl (by omega) ?_
      refine z_vret dX1_tellAnother_92 rfl ?_
      first | exact h1 (by omega) (by omega) | exact h2 (by omega) (by omega) | exact h3 (by omega) (by omega)
    · refine z_iload_1 dX1_tellAnother_68 ?_
      refine z_bipush 64 dX1_tellAnother_69 (by decide +kernel) ?_
      refine z_iadd dX1_tellAnother_71 ?_
      refine z_goto (tgt := 79) dX1_tellAnother_72 (by decide) ?_
      refine z_putI (j := 8) dX1_tellAnother_79 zp_X1_48 (shC_lv ht) rfl (by omega) ?_
      refine z_aload_0 dX1_tellAnother_82 ?_
      refine z_dup dX1_tellAnother_83 rfl ?_
      refine z_getI (j := 9) dX1_tellAnother_84 zf_X1_51 (shC_lv ht) rfl ?_
      refine z_top (b := σ.1 (18 + t) 9) (zsF_ne (by omega)) ?_
      have w8 : zR (σ.1 (18 + t) 9) := hR.1 (18 + t) 9
      refine z_iconst 2 dX1_tellAnother_87 rfl ?_
      refine z_iadd dX1_tellAnother_88 ?_
      refine z_putI (j := 9) dX1_tellAnother_89 zp_X1_51 (shC_lv ht) rfl (by omega) ?_
      refine z_vret dX1_tellAnother_92 rfl ?_
      first | exact h1 (by omega) (by omega) | exact h2 (by omega) (by omega) | exact h3 (by omega) (by omega)
  · refine z_iload_3 dX1_tellAnother_34 ?_
    refine z_if_lt (tgt := 61) dX1_tellAnother_35 (by decide) (by omega) (fun c35 => ?_) (fun c35 => ?_)
    · refine z_aload_0 dX1_tellAnother_61 ?_
      refine z_iload_1 dX1_tellAnother_62 ?_
      refine z_bipush 64 dX1_tellAnother_63 (by decide +kernel) ?_
      refine z_icmp_ge (tgt := 75) dX1_tellAnother_65 (by decide) (by omega) ⟨by decide, by decide⟩ (fun c65 => ?_) (fun c65 => ?_)
      · refine z_iload_1 dX1_tellAnother_75 ?_
        refine z_bipush 64 dX1_tellAnother_76 (by decide +kernel) ?_
        refine z_isub dX1_tellAnother_78 ?_
        refine z_putI (j := 8) dX1_tellAnother_79 zp_X1_48 (shC_lv ht) rfl (by omega) ?_
        refine z_aload_0 dX1_tellAnother_82 ?_
        refine z_dup dX1_tellAnother_83 rfl ?_
        refine z_getI (j := 9) dX1_tellAnother_84 zf_X1_51 (shC_lv ht) rfl ?_
        refine z_top (b := σ.1 (18 + t) 9) (zsF_ne (by omega)) ?_
        have w9 : zR (σ.1 (18 + t) 9) := hR.1 (18 + t) 9
        refine z_iconst 2 dX1_tellAnother_87 rfl ?_
        refine z_iadd dX1_tellAnother_88 ?_
        refine z_putI (j := 9) dX1_tellAnother_89 zp_X1_51 (shC_lv ht) rfl (by omega) ?_
        refine z_vret dX1_tellAnother_92 rfl ?_
        first | exact h1 (by omega) (by omega) | exact h2 (by omega) (by omega) | exact h3 (by omega) (by omega)
      · refine z_iload_1 dX1_tellAnother_68 ?_
        refine z_bipush 64 dX1_tellAnother_69 (by decide +kernel) ?_
        refine z_iadd dX1_tellAnother_71 ?_
        refine z_goto (tgt := 79) dX1_tellAnother_72 (by decide) ?_
        refine z_putI (j := 8) dX1_tellAnother_79 zp_X1_48 (shC_lv ht) rfl (by omega) ?_
        refine z_aload_0 dX1_tellAnother_82 ?_
        refine z_dup dX1_tellAnother_83 rfl ?_
        refine z_getI (j := 9) dX1_tellAnother_84 zf_X1_51 (shC_lv ht) rfl ?_
        refine z_top (b := σ.1 (18 + t) 9) (zsF_ne (by omega)) ?_
        have w10 : zR (σ.1 (18 + t) 9) := hR.1 (18 + t) 9
        refine z_iconst 2 dX1_tellAnother_87 rfl ?_
        refine z_iadd dX1_tellAnother_88 ?_
        refine z_putI (j := 9) dX1_tellAnother_89 zp_X1_51 (shC_lv ht) rfl (by omega) ?_
        refine z_vret dX1_tellAnother_92 rfl ?_
        first | exact h1 (by omega) (by omega) | exact h2 (by omega) (by omega) | exact h3 (by omega) (by omega)
    · refine z_aload_0 dX1_tellAnother_38 ?_
      refine z_bipush 16 dX1_tellAnother_39 (by decide +kernel) ?_
      refine z_iload_2 dX1_tellAnother_41 ?_
      refine z_imul dX1_tellAnother_42 ?_
      refine z_iload_3 dX1_tellAnother_43 ?_
      refine z_iadd dX1_tellAnother_44 ?_
      refine z_putI (j := 8) dX1_tellAnother_45 zp_X1_48 (shC_lv ht) rfl (by omega) ?_
      refine z_aload_0 dX1_tellAnother_48 ?_
      refine z_dup dX1_tellAnother_49 rfl ?_
      refine z_getI (j := 9) dX1_tellAnother_50 zf_X1_51 (shC_lv ht) rfl ?_
      refine z_top (b := σ.1 (18 + t) 9) (zsF_ne (by omega)) ?_
      have w11 : zR (σ.1 (18 + t) 9) := hR.1 (18 + t) 9
      refine z_iconst 3 dX1_tellAnother_53 rfl ?_
      refine z_iadd dX1_tellAnother_54 ?_
      refine z_putI (j := 9) dX1_tellAnother_55 zp_X1_51 (shC_lv ht) rfl (by omega) ?_
      refine z_goto (tgt := 92) dX1_tellAnother_58 (by decide) ?_
      refine z_vret dX1_tellAnother_92 rfl ?_
      first | exact h1 (by omega) (by omega) | exact h2 (by omega) (by omega) | exact h3 (by omega) (by omega)

section zLk
variable {σ : zSt} {t : Nat} {s b : Int}
theorem zk5 : (zsF (zsF σ (18 + t) 8 s) (18 + t) 9 b).1 (18 + t) 5 = σ.1 (18 + t) 5 := (zsF_ne (by omega)).trans (zsF_ne (by omega))
theorem zk8 : (zsF (zsF σ (18 + t) 8 s) (18 + t) 9 b).1 (18 + t) 8 = s := (zsF_ne (by omega)).trans zsF_eq
theorem zk9 : (zsF (zsF σ (18 + t) 8 s) (18 + t) 9 b).1 (18 + t) 9 = b := zsF_eq
end zLk

theorem N_X1_tellsAnother {G : zG} {σ : zSt} {Post : Option Value → zSt → Prop} (t : Nat) (s b : Int) (ht : t < 6) (hl : σ.1 (18 + t) 5 ≤ 121) (hb0 : 0 ≤ b) (hb1 : b ≤ 200) (h1 : zseeP (σ.2 8) (σ.2 (24 + t)) (σ.1 (18 + t) 5) s b → Post (some (.int (zI 1))) (zsF (zsF σ (18 + t) 8 s) (18 + t) 9 b)) (h0 : ¬ zseeP (σ.2 8) (σ.2 (24 + t)) (σ.1 (18 + t) 5) s b → Post (some (.int (zI 0))) (zsF (zsF σ (18 + t) 8 s) (18 + t) 9 b)) : zV G shC mX1_tellsAnother 0 (zini 3 [.ref (zad G (18 + t)), .ref (zad G 1)]) [] (zsF (zsF σ (18 + t) 8 s) (18 + t) 9 b) Post := by
  refine M_X1_tellsAnother t ht (by rw [zk5]; exact hl) (by rw [zk9]; exact hb0) (by rw [zk9]; exact hb1) (fun q => h1 ?_) (fun q => h0 (fun q' => q ?_))
  · rw [zk5, zk8, zk9] at q; exact q
  · rw [zk5, zk8, zk9]; exact q'
theorem N_X1_tellAnother {G : zG} {σ : zSt} {Post : Option Value → zSt → Prop} (t : Nat) (s b : Int) (ht : t < 6) (hl : σ.1 (18 + t) 5 ≤ 121) (hb0 : 0 ≤ b) (hb1 : b ≤ 200) (hp : zseeP (σ.2 8) (σ.2 (24 + t)) (σ.1 (18 + t) 5) s b) (h1 : 0 ≤ zdig (zst (σ.2 (24 + t)) (σ.1 (18 + t) 5) (b + 1)) → 0 ≤ zdig (zst (σ.2 (24 + t)) (σ.1 (18 + t) 5) (b + 2)) → Post none (zsF (zsF σ (18 + t) 8 (16 * zdig (zst (σ.2 (24 + t)) (σ.1 (18 + t) 5) (b + 1)) + zdig (zst (σ.2 (24 + t)) (σ.1 (18 + t) 5) (b + 2)))) (18 + t) 9 (b + 3))) (h2 : ¬ (0 ≤ zdig (zst (σ.2 (24 + t)) (σ.1 (18 + t) 5) (b + 1)) ∧ 0 ≤ zdig (zst (σ.2 (24 + t)) (σ.1 (18 + t) 5) (b + 2))) → zst (σ.2 (24 + t)) (σ.1 (18 + t) 5) (b + 1) < 64 → Post none (zsF (zsF σ (18 + t) 8 (zst (σ.2 (24 + t)) (σ.1 (18 + t) 5) (b + 1) + 64)) (18 + t) 9 (b + 2))) (h3 : ¬ (0 ≤ zdig (zst (σ.2 (24 + t)) (σ.1 (18 + t) 5) (b + 1)) ∧ 0 ≤ zdig (zst (σ.2 (24 + t)) (σ.1 (18 + t) 5) (b + 2))) → 64 ≤ zst (σ.2 (24 + t)) (σ.1 (18 + t) 5) (b + 1) → Post none (zsF (zsF σ (18 + t) 8 (zst (σ.2 (24 + t)) (σ.1 (18 + t) 5) (b + 1) - 64)) (18 + t) 9 (b + 2))) : zV G shC mX1_tellAnother 0 (zini 4 [.ref (zad G (18 + t))]) [] (zsF (zsF σ (18 + t) 8 s) (18 + t) 9 b) Post := by
  refine M_X1_tellAnother t ht (by rw [zk5]; exact hl) (by rw [zk9]; exact hb0) (by rw [zk9]; exact hb1) (by rw [zk5, zk8, zk9]; exact hp) ?_ ?_ ?_ <;> rw [zk5, zk9, zsF_2 (by decide)]
  · exact h1
  · exact h2
  · exact h3

set_option maxRecDepth 100000 in
theorem L_X1_look {G : zG} {σ : zSt} {Post : Option Value → zSt → Prop} (t : Nat) (z : Int) (ht : t < 6) (hR : zRg σ) (hl : σ.1 (18 + t) 5 ≤ 121) : ∀ (m : Nat) (s b L : Int) (hs : zR s) (hL : L = (m : Int)) (hm : m ≤ 121) (hb0 : 0 ≤ b) (hb1 : b ≤ 125) (h : Post none (zsF (zsF σ (18 + t) 8 ((zsee (σ.2 8) (σ.2 (24 + t)) (σ.1 (18 + t) 5) m s b).1)) (18 + t) 9 ((zsee (σ.2 8) (σ.2 (24 + t)) (σ.1 (18 + t) 5) m s b).2))), zV G shC mX1_look 21 [some (.ref (zad G (18 + t))), some (.int (zI z)), some (.ref (zad G 1)), some (.int (zI L))] [] (zsF (zsF σ (18 + t) 8 s) (18 + t) 9 b) Post := by
  intro m
  induction m with
  | zero =>
    intro s b L hs hL hm hb0 hb1 h
    refine z_iload_3 dX1_look_21 ?_
    refine z_if_le (tgt := 43) dX1_look_22 (by decide) (by omega) (fun c22 => ?_) (fun c22 => by exfalso; omega)
    refine z_vret dX1_look_43 rfl ?_
    exact h
  | succ m ih =>
    intro s b L hs hL hm hb0 hb1 h
    refine z_iload_3 dX1_look_21 ?_
    refine z_if_le (tgt := 43) dX1_look_22 (by decide) (by omega) (fun c22 => by exfalso; omega) (fun c22 => ?_)
    refine z_aload_0 dX1_look_25 ?_
    refine z_aload_2 dX1_look_26 ?_
    refine z_callV mX1_tellsAnother [.ref (zad G 1)] dX1_look_27 zk_X1_tellsAnother zl_X1_54 ⟨Nat.le_of_ble_eq_true rfl, Nat.le_of_ble_eq_true rfl⟩ (shC_lv ht) rfl (Nat.le_of_ble_eq_true rfl) (Nat.le_of_ble_eq_true rfl) ?_
    refine N_X1_tellsAnother t s b ht hl (by omega) (by omega) (fun iP => ?_) (fun iP => ?_)
    · refine z_b1 ?_
      refine z_if_eq (tgt := 43) dX1_look_30 (by decide) ⟨by decide, by decide⟩ (fun c30 => by exfalso; omega) (fun c30 => ?_)
      refine z_aload_0 dX1_look_33 ?_
      refine z_callV mX1_tellAnother [] dX1_look_34 zk_X1_tellAnother zl_X1_58 ⟨Nat.le_of_ble_eq_true rfl, Nat.le_of_ble_eq_true rfl⟩ (shC_lv ht) rfl (Nat.le_of_ble_eq_true rfl) (Nat.le_of_ble_eq_true rfl) ?_
      refine N_X1_tellAnother t s b ht hl (by omega) (by omega) iP (fun i1 i2 => ?_) (fun i1 i2 => ?_) (fun i1 i2 => ?_)
      · refine z_b0 ?_
        refine z_iinc_3 dX1_look_37 (Nat.le_of_ble_eq_true rfl) rfl ?_
        refine z_goto (tgt := 21) dX1_look_40 (by decide) ?_
        have hq := zst_lt iP.2.2.1
        have hd1 := zdig_R (zst (σ.2 (24 + t)) (σ.1 (18 + t) 5) (b + 1))
        have hd2 := zdig_R (zst (σ.2 (24 + t)) (σ.1 (18 + t) 5) (b + 2))
        have hq2 : 0 ≤ zdig (zst (σ.2 (24 + t)) (σ.1 (18 + t) 5) (b + 2)) → b + 2 < σ.1 (18 + t) 5 := fun q => by
          rcases Decidable.em (b + 2 < σ.1 (18 + t) 5) with hh | hh
          · exact hh
          · rw [zst_out (by omega)] at q; exact absurd q (by decide)
        obtain ⟨-, -, hp3, hp4⟩ := id iP
        rw [zsee_1 iP i1 i2] at h
        exact ih _ _ (L + (-1)) (by omega) (by omega) (by omega) (by omega) (by omega) h
      · refine z_b0 ?_
        refine z_iinc_3 dX1_look_37 (Nat.le_of_ble_eq_true rfl) rfl ?_
        refine z_goto (tgt := 21) dX1_look_40 (by decide) ?_
        have hq := zst_lt iP.2.2.1
        have hd1 := zdig_R (zst (σ.2 (24 + t)) (σ.1 (18 + t) 5) (b + 1))
        have hd2 := zdig_R (zst (σ.2 (24 + t)) (σ.1 (18 + t) 5) (b + 2))
        have hq2 : 0 ≤ zdig (zst (σ.2 (24 + t)) (σ.1 (18 + t) 5) (b + 2)) → b + 2 < σ.1 (18 + t) 5 := fun q => by
          rcases Decidable.em (b + 2 < σ.1 (18 + t) 5) with hh | hh
          · exact hh
          · rw [zst_out (by omega)] at q; exact absurd q (by decide)
        obtain ⟨-, -, hp3, hp4⟩ := id iP
        rw [zsee_2 iP i1 i2] at h
        exact ih _ _ (L + (-1)) (by omega) (by omega) (by omega) (by omega) (by omega) h
      · refine z_b0 ?_
        refine z_iinc_3 dX1_look_37 (Nat.le_of_ble_eq_true rfl) rfl ?_
        refine z_goto (tgt := 21) dX1_look_40 (by decide) ?_
        have hq := zst_lt iP.2.2.1
        have hd1 := zdig_R (zst (σ.2 (24 + t)) (σ.1 (18 + t) 5) (b + 1))
        have hd2 := zdig_R (zst (σ.2 (24 + t)) (σ.1 (18 + t) 5) (b + 2))
        have hq2 : 0 ≤ zdig (zst (σ.2 (24 + t)) (σ.1 (18 + t) 5) (b + 2)) → b + 2 < σ.1 (18 + t) 5 := fun q => by
          rcases Decidable.em (b + 2 < σ.1 (18 + t) 5) with hh | hh
          · exact hh
          · rw [zst_out (by omega)] at q; exact absurd q (by decide)
        obtain ⟨-, -, hp3, hp4⟩ := id iP
        rw [zsee_3 iP i1 i2] at h
        exact ih _ _ (L + (-1)) (by omega) (by omega) (by omega) (by omega) (by omega) h
    · refine z_b1 ?_
      refine z_if_eq (tgt := 43) dX1_look_30 (by decide) ⟨by decide, by decide⟩ (fun c30 => ?_) (fun c30 => by exfalso; omega)
      refine z_vret dX1_look_43 rfl ?_
      rw [zsee_0 iP] at h
      exact h

set_option maxRecDepth 100000 in
theorem M_X1_look {G : zG} {σ : zSt} {Post : Option Value → zSt → Prop} (t : Nat) (z : Int) (ht : t < 6) (hl0 : 0 ≤ σ.1 (18 + t) 5) (hl : σ.1 (18 + t) 5 ≤ 121) (hz0 : 0 ≤ z) (hz : z ≤ 121) (h : Post none (zsF (zsF σ (18 + t) 8 ((zsee (σ.2 8) (σ.2 (24 + t)) (σ.1 (18 + t) 5) ((σ.1 (18 + t) 5)).toNat (zst (σ.2 (24 + t)) (σ.1 (18 + t) 5) z) (z + 1)).1)) (18 + t) 9 ((zsee (σ.2 8) (σ.2 (24 + t)) (σ.1 (18 + t) 5) ((σ.1 (18 + t) 5)).toNat (zst (σ.2 (24 + t)) (σ.1 (18 + t) 5) z) (z + 1)).2))) : zV G shC mX1_look 0 (zini 4 [.ref (zad G (18 + t)), .int (zI z), .ref (zad G 1)]) [] σ Post := by
  refine z_rg (fun hR => ?_)
  refine z_lv (lv' := [some (.ref (zad G (18 + t))), some (.int (zI z)), some (.ref (zad G 1)), none]) rfl ?_
  refine z_aload_0 dX1_look_0 ?_
  refine z_aload_0 dX1_look_1 ?_
  refine z_iload_1 dX1_look_2 ?_
  refine z_callV mX1_standing [.int (zI z)] dX1_look_3 zk_X1_standing zl_X1_44 ⟨Nat.le_of_ble_eq_true rfl, Nat.le_of_ble_eq_true rfl⟩ (shC_lv ht) rfl (Nat.le_of_ble_eq_true rfl) (Nat.le_of_ble_eq_true rfl) ?_
  refine M_X1_standing t z ht (by omega) (by omega) ?_
  refine z_b1 ?_
  have w1 := zst_R (σ.2 (24 + t)) (σ.1 (18 + t) 5) z (fun q => hR.2 (24 + t) q)
  refine z_putI (j := 8) dX1_look_6 zp_X1_48 (shC_lv ht) rfl (by omega) ?_
  refine z_aload_0 dX1_look_9 ?_
  refine z_iload_1 dX1_look_10 ?_
  refine z_iconst 1 dX1_look_11 rfl ?_
  refine z_iadd dX1_look_12 ?_
  refine z_putI (j := 9) dX1_look_13 zp_X1_51 (shC_lv ht) rfl (by omega) ?_
  refine z_aload_0 dX1_look_16 ?_
  refine z_getI (j := 5) dX1_look_17 zf_X1_35 (shC_lv ht) rfl ?_
  refine z_top (b := σ.1 (18 + t) 5) ((zsF_ne (by omega)).trans (zsF_ne (by omega))) ?_
  have w2 : zR (σ.1 (18 + t) 5) := hR.1 (18 + t) 5
  refine z_istore_3 dX1_look_20 (Nat.le_of_ble_eq_true rfl) rfl ?_
  exact L_X1_look t z ht hR hl (σ.1 (18 + t) 5).toNat (zst (σ.2 (24 + t)) (σ.1 (18 + t) 5) z) (z + 1) (σ.1 (18 + t) 5) (by omega) (by omega) (by omega) (by omega) (by omega) h

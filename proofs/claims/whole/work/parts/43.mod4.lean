def zlets (cats row : Int → Int) (len : Int) : Nat → Int → List Int × Int
  | 0, p => ([], p)
  | m + 1, p => if 0 ≤ zst row len p then (if cats (zsee cats row len len.toNat (zst row len p) (p + 1)).1 = 11 then ((zsee cats row len len.toNat (zst row len p) (p + 1)).1 :: (zlets cats row len m (zsee cats row len len.toNat (zst row len p) (p + 1)).2).1, (zlets cats row len m (zsee cats row len len.toNat (zst row len p) (p + 1)).2).2) else ([], p)) else ([], p)
theorem zlets_no {cats row : Int → Int} {len p : Int} {m : Nat} (h : zst row len p < 0) : zlets cats row len m p = ([], p) := by
  cases m with
  | zero => rfl
  | succ m => exact if_neg (by omega)
theorem zlets_ot {cats row : Int → Int} {len p : Int} {m : Nat} (h0 : 0 ≤ zst row len p) (h : cats (zsee cats row len len.toNat (zst row len p) (p + 1)).1 ≠ 11) : zlets cats row len m p = ([], p) := by
  cases m with
  | zero => rfl
  | succ m => exact (if_pos h0).trans (if_neg h)
theorem zlets_le {cats row : Int → Int} {len p : Int} {m : Nat} (h0 : 0 ≤ zst row len p) (h : cats (zsee cats row len len.toNat (zst row len p) (p + 1)).1 = 11) : zlets cats row len (m + 1) p = ((zsee cats row len len.toNat (zst row len p) (p + 1)).1 :: (zlets cats row len m (zsee cats row len len.toNat (zst row len p) (p + 1)).2).1, (zlets cats row len m (zsee cats row len len.toNat (zst row len p) (p + 1)).2).2) := (if_pos h0).trans (if_pos h)
def zwr (c : Nat) : zSt → Int → List Int → zSt
  | σ, _, [] => σ
  | σ, k, s :: L => zwr c (if k < 40 then zsA σ c k s else σ) (k + 1) L
theorem eqM_wr {c : Nat} : ∀ (L : List Int) (a b : zSt) (k : Int), eqM a b → eqM (zwr c a k L) (zwr c b k L)
  | [], _, _, _, h => h
  | s :: L, a, b, k, h => by
    rw [zwr, zwr]
    refine eqM_wr L _ _ _ ?_
    split
    · exact h.A
    · exact h
theorem zwr_F {c : Nat} : ∀ (L : List Int) (a : zSt) (k : Int), (zwr c a k L).1 = a.1
  | [], _, _ => rfl
  | s :: L, a, k => by
    rw [zwr, zwr_F L]
    split <;> rfl
theorem zwr_A {c i : Nat} (h : i ≠ c) : ∀ (L : List Int) (a : zSt) (k : Int), (zwr c a k L).2 i = a.2 i
  | [], _, _ => rfl
  | s :: L, a, k => by
    rw [zwr, zwr_A h L]
    split
    · exact zsA_arr h
    · rfl

theorem zmr_cg {r r' : Int → Int} {t : Int} (e : r = r') : zmr r t = zmr r' t := by rw [e]
theorem N_X7_see {G : zG} {σ : zSt} {Post : Option Value → zSt → Prop} (T : Int) (hT0 : 0 ≤ T) (hT6 : T < 6) (hT : σ.1 0 10 = T + 1) (cats row : Int → Int) (len z : Int) (hc : σ.2 1 = cats) (hrow : zmr (σ.2 9) T = row) (hln : σ.2 10 T = len) (hz0 : 0 ≤ z) (hz : z < len) (hl : len ≤ 121) (hrow0 : ∀ q, 0 ≤ row q ∧ row q ≤ 255) (h : Post none (zsF (zsF σ 0 26 (zsee cats row len len.toNat (zst row len z) (z + 1)).1) 0 27 ((zsee cats row len len.toNat (zst row len z) (z + 1)).2 - z))) : zV G shM mX7_see 0 (zini 4 [.ref (zad G 0), .int (zI z)]) [] σ Post := by
  subst hc; subst hrow; subst hln
  refine M_X7_see T hT0 hT6 hT z hz0 hz hl (fun q => ?_) h
  have := hrow0 (q - 128 * T)
  rw [zmr, show 128 * T + (q - 128 * T) = q by omega] at this
  exact this
theorem N_X7_standing {G : zG} {σ : zSt} {Post : Option Value → zSt → Prop} (T : Int) (hT0 : 0 ≤ T) (hT6 : T < 6) (hT : σ.1 0 10 = T + 1) (row : Int → Int) (len z : Int) (hrow : zmr (σ.2 9) T = row) (hln : σ.2 10 T = len) (hz0 : 0 ≤ z) (hz : zR z) (hl : len ≤ 121) (h : Post (some (.int (zI (zst row len z)))) σ) : zV G shM mX7_standing 0 (zini 3 [.ref (zad G 0), .int (zI z)]) [] σ Post := by
  subst hrow; subst hln
  exact M_X7_standing T hT0 hT6 hT z hz0 hz hl h
theorem zst_R2 {row : Int → Int} (h : ∀ q, 0 ≤ row q ∧ row q ≤ 255) (len p : Int) : -1 ≤ zst row len p ∧ zst row len p ≤ 255 := by unfold zst; split; have := h p; omega; omega

theorem zst_neg {row : Int → Int} {len p : Int} (h : ∀ q, 0 ≤ row q ∧ row q ≤ 255) (h0 : 0 ≤ p) (hn : zst row len p < 0) : len ≤ p := by
  rcases Decidable.em (p < len) with q | q
  · rw [zst_in h0 q] at hn; have := h p; omega
  · omega
theorem zst_pos {row : Int → Int} {len p : Int} (hn : 0 ≤ zst row len p) : p < len := (zst_lt hn).2

set_option maxRecDepth 100000 in
theorem L_X7_letters {G : zG} {σ : zSt} {Post : Option Value → zSt → Prop} (T : Int) (hT0 : 0 ≤ T) (hT6 : T < 6) (cats row : Int → Int) (len fr : Int) (hl : len ≤ 121) (hrow0 : ∀ q, 0 ≤ row q ∧ row q ≤ 255) : ∀ (m : Nat) (σ : zSt) (hR : zRg σ) (n p : Int) (hT : σ.1 0 10 = T + 1) (hc : σ.2 1 = cats) (hrow : zmr (σ.2 9) T = row) (hln : σ.2 10 T = len) (hn0 : 0 ≤ n) (hnp : n ≤ p) (hs0 : 0 ≤ σ.1 0 26) (hs1 : σ.1 0 26 ≤ 255) (hw : 1 ≤ σ.1 0 27) (hpw : p + σ.1 0 27 ≤ len) (hm : len - (p + σ.1 0 27) ≤ m) (hwl : σ.1 0 29 = zdl n) (h : ∀ σ2, eqM σ2 (zwr 18 σ n (σ.1 0 26 :: (zlets cats row len m (p + σ.1 0 27)).1)) → σ2.1 0 29 = zdl (n + 1 + ((zlets cats row len m (p + σ.1 0 27)).1.length : Int)) → zV G shM mX7_readWord 163 [some (.ref (zad G 0)), some (.int (zI fr)), some (.int (zI T)), some (.int (zI (zlets cats row len m (p + σ.1 0 27)).2)), some (.int (zI (n + 1 + ((zlets cats row len m (p + σ.1 0 27)).1.length : Int)))), some (.int (zI 0))] [] σ2 Post), zV G shM mX7_readWord 93 [some (.ref (zad G 0)), some (.int (zI fr)), some (.int (zI T)), some (.int (zI p)), some (.int (zI n)), some (.int (zI 1))] [] σ Post := by
  intro m
  induction m with
  | zero =>
    intro σ hR n p hT hc hrow hln hn0 hnp hs0 hs1 hw hpw hm hwl h
    have hst : zst row len (p + σ.1 0 27) < 0 := by rw [zst_out (by omega)]; decide
    refine z_iload_5 dX7_readWord_93 ?_
    refine z_if_eq (tgt := 163) dX7_readWord_95 (by decide) ⟨by decide, by decide⟩ (fun c95 => by exfalso; omega) (fun c95 => ?_)
    refine z_aload_0 dX7_readWord_98 ?_
    refine z_iload_4 dX7_readWord_99 ?_
    refine z_callV mX7_addToWord [.int (zI n)] dX7_readWord_101 zk_X7_addToWord zl_X7_129 ⟨Nat.le_of_ble_eq_true rfl, Nat.le_of_ble_eq_true rfl⟩ rfl rfl (Nat.le_of_ble_eq_true rfl) (Nat.le_of_ble_eq_true rfl) ?_
    refine M_X7_addToWord n (by omega) (by omega) (fun i1 => ?_) (fun i1 => ?_)
    · refine z_b0 ?_
      refine z_iinc_4 dX7_readWord_104 (Nat.le_of_ble_eq_true rfl) rfl ?_
      refine z_iload_3 dX7_readWord_107 ?_
      refine z_aload_0 dX7_readWord_108 ?_
      refine z_getI (j := 27) dX7_readWord_109 zf_X7_107 rfl rfl ?_
      refine z_top (b := σ.1 0 27) ((zsF_ne (by omega)).trans zsA_F) ?_
      have w1 : zR (σ.1 0 27) := hR.1 0 27
      refine z_iadd dX7_readWord_112 ?_
      refine z_istore_3 dX7_readWord_113 (Nat.le_of_ble_eq_true rfl) rfl ?_
      refine z_aload_0 dX7_readWord_114 ?_
      refine z_iload_3 dX7_readWord_115 ?_
      refine z_callV mX7_standing [.int (zI (p + (σ.1 0 27)))] dX7_readWord_116 zk_X7_standing zl_X7_100 ⟨Nat.le_of_ble_eq_true rfl, Nat.le_of_ble_eq_true rfl⟩ rfl rfl (Nat.le_of_ble_eq_true rfl) (Nat.le_of_ble_eq_true rfl) ?_
      refine N_X7_standing T hT0 hT6 (zeqE (b := σ.1 0 10) ((zsF_ne (by omega)).trans zsA_F) (by omega)) row len (p + (σ.1 0 27)) ((zmr_cg (zsF_W.trans (zsA_arr (by omega)))).trans hrow) ((zsF_A.trans (zsA_ne1 (by omega))).trans hln) (by omega) (by omega) (by omega) ?_
      refine z_b1 ?_
      have w2 := zst_R2 hrow0 len (p + (σ.1 0 27))
      refine z_if_lt (tgt := 126) dX7_readWord_119 (by decide) (by omega) (fun c119 => ?_) (fun c119 => by exfalso; omega)
      refine z_iconst 0 dX7_readWord_126 rfl ?_
      refine z_istore_5 dX7_readWord_127 (Nat.le_of_ble_eq_true rfl) rfl ?_
      refine z_iload_5 dX7_readWord_129 ?_
      refine z_if_eq (tgt := 93) dX7_readWord_131 (by decide) ⟨by decide, by decide⟩ (fun c131 => ?_) (fun c131 => by exfalso; omega)
      refine z_iload_5 dX7_readWord_93 ?_
      refine z_if_eq (tgt := 163) dX7_readWord_95 (by decide) ⟨by decide, by decide⟩ (fun c95 => ?_) (fun c95 => by exfalso; omega)
      have hle : zlets cats row len 0 (p + σ.1 0 27) = ([], p + σ.1 0 27) := zlets_no (by omega)
      rw [hle] at h
      have q3 := h (zsF (zsA σ 18 n (σ.1 0 26)) 0 29 (n + 1)) (by rw [zwr, zwr]; rw [if_pos i1]; exact (eqM.jF (by unfold zJ; omega) eqM.rfl')) (zsF_eq.trans (by unfold zdl; rw [if_neg (by simp only [List.length_nil]; omega)]; simp only [List.length_nil]; omega))
      rw [show n + 1 + (([] : List Int).length : Int) = n + 1 by simp] at q3
      exact q3
    · refine z_b0 ?_
      refine z_iinc_4 dX7_readWord_104 (Nat.le_of_ble_eq_true rfl) rfl ?_
      refine z_iload_3 dX7_readWord_107 ?_
      refine z_aload_0 dX7_readWord_108 ?_
      refine z_getI (j := 27) dX7_readWord_109 zf_X7_107 rfl rfl ?_
      have w3 : zR (σ.1 0 27) := hR.1 0 27
      refine z_iadd dX7_readWord_112 ?_
      refine z_istore_3 dX7_readWord_113 (Nat.le_of_ble_eq_true rfl) rfl ?_
      refine z_aload_0 dX7_readWord_114 ?_
      refine z_iload_3 dX7_readWord_115 ?_
      refine z_callV mX7_standing [.int (zI (p + (σ.1 0 27)))] dX7_readWord_116 zk_X7_standing zl_X7_100 ⟨Nat.le_of_ble_eq_true rfl, Nat.le_of_ble_eq_true rfl⟩ rfl rfl (Nat.le_of_ble_eq_true rfl) (Nat.le_of_ble_eq_true rfl) ?_
      refine N_X7_standing T hT0 hT6 (by omega) row len (p + (σ.1 0 27)) hrow hln (by omega) (by omega) (by omega) ?_
      refine z_b1 ?_
      have w4 := zst_R2 hrow0 len (p + (σ.1 0 27))
      refine z_if_lt (tgt := 126) dX7_readWord_119 (by decide) (by omega) (fun c119 => ?_) (fun c119 => by exfalso; omega)
      refine z_iconst 0 dX7_readWord_126 rfl ?_
      refine z_istore_5 dX7_readWord_127 (Nat.le_of_ble_eq_true rfl) rfl ?_
      refine z_iload_5 dX7_readWord_129 ?_
      refine z_if_eq (tgt := 93) dX7_readWord_131 (by decide) ⟨by decide, by decide⟩ (fun c131 => ?_) (fun c131 => by exfalso; omega)
      refine z_iload_5 dX7_readWord_93 ?_
      refine z_if_eq (tgt := 163) dX7_readWord_95 (by decide) ⟨by decide, by decide⟩ (fun c95 => ?_) (fun c95 => by exfalso; omega)
      have hle : zlets cats row len 0 (p + σ.1 0 27) = ([], p + σ.1 0 27) := zlets_no (by omega)
      rw [hle] at h
      have q3 := h σ (by rw [zwr, zwr]; rw [if_neg (by omega)]; exact eqM.rfl') (hwl.trans (by unfold zdl; simp only [List.length_nil]; split <;> split <;> omega))
      rw [show n + 1 + (([] : List Int).length : Int) = n + 1 by simp] at q3
      exact q3
  | succ m ih =>
    intro σ hR n p hT hc hrow hln hn0 hnp hs0 hs1 hw hpw hm hwl h
    have hst := zst_neg (row := row) (len := len) (p := p + σ.1 0 27) hrow0 (by omega)
    have hst2 := zst_pos (row := row) (len := len) (p := p + σ.1 0 27)
    refine z_iload_5 dX7_readWord_93 ?_
    refine z_if_eq (tgt := 163) dX7_readWord_95 (by decide) ⟨by decide, by decide⟩ (fun c95 => by exfalso; omega) (fun c95 => ?_)
    refine z_aload_0 dX7_readWord_98 ?_
    refine z_iload_4 dX7_readWord_99 ?_
    refine z_callV mX7_addToWord [.int (zI n)] dX7_readWord_101 zk_X7_addToWord zl_X7_129 ⟨Nat.le_of_ble_eq_true rfl, Nat.le_of_ble_eq_true rfl⟩ rfl rfl (Nat.le_of_ble_eq_true rfl) (Nat.le_of_ble_eq_true rfl) ?_
    refine M_X7_addToWord n (by omega) (by omega) (fun i1 => ?_) (fun i1 => ?_)
    · refine z_b0 ?_
      refine z_iinc_4 dX7_readWord_104 (Nat.le_of_ble_eq_true rfl) rfl ?_
      refine z_iload_3 dX7_readWord_107 ?_
      refine z_aload_0 dX7_readWord_108 ?_
      refine z_getI (j := 27) dX7_readWord_109 zf_X7_107 rfl rfl ?_
      refine z_top (b := σ.1 0 27) ((zsF_ne (by omega)).trans zsA_F) ?_
      have w1 : zR (σ.1 0 27) := hR.1 0 27
      refine z_iadd dX7_readWord_112 ?_
      refine z_istore_3 dX7_readWord_113 (Nat.le_of_ble_eq_true rfl) rfl ?_
      refine z_aload_0 dX7_readWord_114 ?_
      refine z_iload_3 dX7_readWord_115 ?_
      refine z_callV mX7_standing [.int (zI (p + (σ.1 0 27)))] dX7_readWord_116 zk_X7_standing zl_X7_100 ⟨Nat.le_of_ble_eq_true rfl, Nat.le_of_ble_eq_true rfl⟩ rfl rfl (Nat.le_of_ble_eq_true rfl) (Nat.le_of_ble_eq_true rfl) ?_
      refine N_X7_standing T hT0 hT6 (zeqE (b := σ.1 0 10) ((zsF_ne (by omega)).trans zsA_F) (by omega)) row len (p + (σ.1 0 27)) ((zmr_cg (zsF_W.trans (zsA_arr (by omega)))).trans hrow) ((zsF_A.trans (zsA_ne1 (by omega))).trans hln) (by omega) (by omega) (by omega) ?_
      refine z_b1 ?_
      have w2 := zst_R2 hrow0 len (p + (σ.1 0 27))
      refine z_if_lt (tgt := 126) dX7_readWord_119 (by decide) (by omega) (fun c119 => ?_) (fun c119 => ?_)
      · refine z_iconst 0 dX7_readWord_126 rfl ?_
        refine z_istore_5 dX7_readWord_127 (Nat.le_of_ble_eq_true rfl) rfl ?_
        refine z_iload_5 dX7_readWord_129 ?_
        refine z_if_eq (tgt := 93) dX7_readWord_131 (by decide) ⟨by decide, by decide⟩ (fun c131 => ?_) (fun c131 => by exfalso; omega)
        refine z_iload_5 dX7_readWord_93 ?_
        refine z_if_eq (tgt := 163) dX7_readWord_95 (by decide) ⟨by decide, by decide⟩ (fun c95 => ?_) (fun c95 => by exfalso; omega)
        have hle : zlets cats row len (m + 1) (p + σ.1 0 27) = ([], p + σ.1 0 27) := zlets_no (by omega)
        rw [hle] at h
        have q3 := h (zsF (zsA σ 18 n (σ.1 0 26)) 0 29 (n + 1)) (by rw [zwr, zwr]; rw [if_pos i1]; exact (eqM.jF (by unfold zJ; omega) eqM.rfl')) (zsF_eq.trans (by unfold zdl; rw [if_neg (by simp only [List.length_nil]; omega)]; simp only [List.length_nil]; omega))
        rw [show n + 1 + (([] : List Int).length : Int) = n + 1 by simp] at q3
        exact q3
      · refine z_iconst 1 dX7_readWord_122 rfl ?_
        refine z_goto (tgt := 127) dX7_readWord_123 (by decide) ?_
        refine z_istore_5 dX7_readWord_127 (Nat.le_of_ble_eq_true rfl) rfl ?_
        refine z_iload_5 dX7_readWord_129 ?_
        refine z_if_eq (tgt := 93) dX7_readWord_131 (by decide) ⟨by decide, by decide⟩ (fun c131 => by exfalso; omega) (fun c131 => ?_)
        refine z_aload_0 dX7_readWord_134 ?_
        refine z_iload_3 dX7_readWord_135 ?_
        refine z_callV mX7_see [.int (zI (p + (σ.1 0 27)))] dX7_readWord_136 zk_X7_see zl_X7_125 ⟨Nat.le_of_ble_eq_true rfl, Nat.le_of_ble_eq_true rfl⟩ rfl rfl (Nat.le_of_ble_eq_true rfl) (Nat.le_of_ble_eq_true rfl) ?_
        refine N_X7_see T hT0 hT6 (zeqE (b := σ.1 0 10) ((zsF_ne (by omega)).trans zsA_F) (by omega)) cats row len (p + (σ.1 0 27)) ((zsF_W.trans (zsA_arr (by omega))).trans hc) ((zmr_cg (zsF_W.trans (zsA_arr (by omega)))).trans hrow) ((zsF_A.trans (zsA_ne1 (by omega))).trans hln) (by omega) (by omega) (by omega) hrow0 ?_
        refine z_b0 ?_
        have w3 := zsee_rg (cats := cats) (row := row) (len := len) hrow0 len.toNat (zst row len (p + (σ.1 0 27))) ((p + (σ.1 0 27)) + 1) (by omega) (by omega) (by omega) (by omega)
        refine z_aload_0 dX7_readWord_139 ?_
        refine z_getR (j := 1) dX7_readWord_140 zf_X7_7 rfl rfl ?_
        refine z_aload_0 dX7_readWord_143 ?_
        refine z_getI (j := 26) dX7_readWord_144 zf_X7_104 rfl rfl ?_
        refine z_top (b := (zsee cats row len len.toNat (zst row len (p + (σ.1 0 27))) ((p + (σ.1 0 27)) + 1)).1) ((zsF_ne (by omega)).trans zsF_eq) ?_
        refine z_iald dX7_readWord_147 rfl (by decide) (by omega) (by omega) ?_
        refine z_top (b := σ.2 1 ((zsee cats row len len.toNat (zst row len (p + (σ.1 0 27))) ((p + (σ.1 0 27)) + 1)).1)) (zsF_A.trans (zsF_A.trans (zsF_A.trans (zsA_ne1 (by omega))))) ?_
        have w4 : zR (σ.2 1 ((zsee cats row len len.toNat (zst row len (p + (σ.1 0 27))) ((p + (σ.1 0 27)) + 1)).1)) := hR.2 1 ((zsee cats row len len.toNat (zst row len (p + (σ.1 0 27))) ((p + (σ.1 0 27)) + 1)).1)
        refine z_bipush 11 dX7_readWord_148 (by decide +kernel) ?_
        refine z_icmp_ne (tgt := 157) dX7_readWord_150 (by decide) (by omega) ⟨by decide, by decide⟩ (fun c150 => ?_) (fun c150 => ?_)
        · refine z_iconst 0 dX7_readWord_157 rfl ?_
          refine z_istore_5 dX7_readWord_158 (Nat.le_of_ble_eq_true rfl) rfl ?_
          refine z_goto (tgt := 93) dX7_readWord_160 (by decide) ?_
          refine z_iload_5 dX7_readWord_93 ?_
          refine z_if_eq (tgt := 163) dX7_readWord_95 (by decide) ⟨by decide, by decide⟩ (fun c95 => ?_) (fun c95 => by exfalso; omega)
          rw [hc] at c150
          have hle : zlets cats row len (m + 1) (p + σ.1 0 27) = ([], p + σ.1 0 27) := zlets_ot (by omega) c150
          rw [hle] at h
          have q3 := h (zsF (zsF (zsF (zsA σ 18 n (σ.1 0 26)) 0 29 (n + 1)) 0 26 ((zsee cats row len len.toNat (zst row len (p + (σ.1 0 27))) ((p + (σ.1 0 27)) + 1)).1)) 0 27 ((zsee cats row len len.toNat (zst row len (p + (σ.1 0 27))) ((p + (σ.1 0 27)) + 1)).2 - (p + (σ.1 0 27)))) (by rw [zwr, zwr]; rw [if_pos i1]; exact (eqM.jF (by unfold zJ; omega) (eqM.jF (by unfold zJ; omega) (eqM.jF (by unfold zJ; omega) eqM.rfl')))) (((zsF_ne (by omega)).trans ((zsF_ne (by omega)).trans zsF_eq)).trans (by unfold zdl; rw [if_neg (by simp only [List.length_nil]; omega)]; simp only [List.length_nil]; omega))
          rw [show n + 1 + (([] : List Int).length : Int) = n + 1 by simp] at q3
          exact q3
        · refine z_iconst 1 dX7_readWord_153 rfl ?_
          refine z_goto (tgt := 158) dX7_readWord_154 (by decide) ?_
          refine z_istore_5 dX7_readWord_158 (Nat.le_of_ble_eq_true rfl) rfl ?_
          refine z_goto (tgt := 93) dX7_readWord_160 (by decide) ?_
          refine z_rg (fun hR9 => ?_)
          rw [hc] at c150
          have hle := zlets_le (cats := cats) (row := row) (len := len) (p := p + σ.1 0 27) (m := m) (by omega) c150
          have ew : (zsF (zsF (zsF (zsA σ 18 n (σ.1 0 26)) 0 29 (n + 1)) 0 26 ((zsee cats row len len.toNat (zst row len (p + (σ.1 0 27))) ((p + (σ.1 0 27)) + 1)).1)) 0 27 ((zsee cats row len len.toNat (zst row len (p + (σ.1 0 27))) ((p + (σ.1 0 27)) + 1)).2 - (p + (σ.1 0 27)))).1 0 27 = (zsee cats row len len.toNat (zst row len (p + σ.1 0 27)) ((p + σ.1 0 27) + 1)).2 - (p + σ.1 0 27) := zsF_eq
          have es : (zsF (zsF (zsF (zsA σ 18 n (σ.1 0 26)) 0 29 (n + 1)) 0 26 ((zsee cats row len len.toNat (zst row len (p + (σ.1 0 27))) ((p + (σ.1 0 27)) + 1)).1)) 0 27 ((zsee cats row len len.toNat (zst row len (p + (σ.1 0 27))) ((p + (σ.1 0 27)) + 1)).2 - (p + (σ.1 0 27)))).1 0 26 = (zsee cats row len len.toNat (zst row len (p + σ.1 0 27)) ((p + σ.1 0 27) + 1)).1 := (zsF_ne (by omega)).trans zsF_eq
          have el : (zsF (zsF (zsF (zsA σ 18 n (σ.1 0 26)) 0 29 (n + 1)) 0 26 ((zsee cats row len len.toNat (zst row len (p + (σ.1 0 27))) ((p + (σ.1 0 27)) + 1)).1)) 0 27 ((zsee cats row len len.toNat (zst row len (p + (σ.1 0 27))) ((p + (σ.1 0 27)) + 1)).2 - (p + (σ.1 0 27)))).1 0 29 = zdl (n + 1) := ((zsF_ne (by omega)).trans ((zsF_ne (by omega)).trans zsF_eq)).trans (by unfold zdl; rw [if_neg (by omega)])
          have en : (p + σ.1 0 27) + ((zsee cats row len len.toNat (zst row len (p + σ.1 0 27)) ((p + σ.1 0 27) + 1)).2 - (p + σ.1 0 27)) = (zsee cats row len len.toNat (zst row len (p + σ.1 0 27)) ((p + σ.1 0 27) + 1)).2 := by omega
          refine ih (zsF (zsF (zsF (zsA σ 18 n (σ.1 0 26)) 0 29 (n + 1)) 0 26 ((zsee cats row len len.toNat (zst row len (p + (σ.1 0 27))) ((p + (σ.1 0 27)) + 1)).1)) 0 27 ((zsee cats row len len.toNat (zst row len (p + (σ.1 0 27))) ((p + (σ.1 0 27)) + 1)).2 - (p + (σ.1 0 27)))) hR9 (n + 1) (p + σ.1 0 27) (zeqE (b := σ.1 0 10) ((zsF_ne (by omega)).trans ((zsF_ne (by omega)).trans ((zsF_ne (by omega)).trans zsA_F))) (by omega)) ((zsF_W.trans (zsF_W.trans (zsF_W.trans (zsA_arr (by omega))))).trans hc) ((zmr_cg (zsF_W.trans (zsF_W.trans (zsF_W.trans (zsA_arr (by omega)))))).trans hrow) ((zsF_A.trans (zsF_A.trans (zsF_A.trans (zsA_ne1 (by omega))))).trans hln) (by omega) (by omega) (by rw [es]; omega) (by rw [es]; omega) (by rw [ew]; omega) (by rw [ew]; omega) (by rw [ew]; omega) el (fun σ2 q1 q2 => ?_)
          rw [ew, en] at q1 q2 ⊢
          rw [es] at q1
          have q3 := h σ2 (by rw [hle, zwr]; exact q1.trans (eqM_wr _ _ _ _ (by rw [if_pos i1]; exact eqM.jF (by unfold zJ; omega) (eqM.jF (by unfold zJ; omega) (eqM.jF (by unfold zJ; omega) eqM.rfl'))))) (by rw [hle]; exact q2.trans (congrArg zdl (by simp only [List.length_cons]; omega)))
          rw [hle] at q3
          simp only [List.length_cons] at q3
          rw [show n + 1 + (((zlets cats row len m (zsee cats row len len.toNat (zst row len (p + σ.1 0 27)) ((p + σ.1 0 27) + 1)).2).1.length + 1 : Nat) : Int) = n + 1 + 1 + ((zlets cats row len m (zsee cats row len len.toNat (zst row len (p + σ.1 0 27)) ((p + σ.1 0 27) + 1)).2).1.length : Int) by omega] at q3
          exact q3
    · refine z_b0 ?_
      refine z_iinc_4 dX7_readWord_104 (Nat.le_of_ble_eq_true rfl) rfl ?_
      refine z_iload_3 dX7_readWord_107 ?_
      refine z_aload_0 dX7_readWord_108 ?_
      refine z_getI (j := 27) dX7_readWord_109 zf_X7_107 rfl rfl ?_
      have w5 : zR (σ.1 0 27) := hR.1 0 27
      refine z_iadd dX7_readWord_112 ?_
      refine z_istore_3 dX7_readWord_113 (Nat.le_of_ble_eq_true rfl) rfl ?_
      refine z_aload_0 dX7_readWord_114 ?_
      refine z_iload_3 dX7_readWord_115 ?_
      refine z_callV mX7_standing [.int (zI (p + (σ.1 0 27)))] dX7_readWord_116 zk_X7_standing zl_X7_100 ⟨Nat.le_of_ble_eq_true rfl, Nat.le_of_ble_eq_true rfl⟩ rfl rfl (Nat.le_of_ble_eq_true rfl) (Nat.le_of_ble_eq_true rfl) ?_
      refine N_X7_standing T hT0 hT6 (by omega) row len (p + (σ.1 0 27)) hrow hln (by omega) (by omega) (by omega) ?_
      refine z_b1 ?_
      have w6 := zst_R2 hrow0 len (p + (σ.1 0 27))
      refine z_if_lt (tgt := 126) dX7_readWord_119 (by decide) (by omega) (fun c119 => ?_) (fun c119 => ?_)
      · refine z_iconst 0 dX7_readWord_126 rfl ?_
        refine z_istore_5 dX7_readWord_127 (Nat.le_of_ble_eq_true rfl) rfl ?_
        refine z_iload_5 dX7_readWord_129 ?_
        refine z_if_eq (tgt := 93) dX7_readWord_131 (by decide) ⟨by decide, by decide⟩ (fun c131 => ?_) (fun c131 => by exfalso; omega)
        refine z_iload_5 dX7_readWord_93 ?_
        refine z_if_eq (tgt := 163) dX7_readWord_95 (by decide) ⟨by decide, by decide⟩ (fun c95 => ?_) (fun c95 => by exfalso; omega)
        have hle : zlets cats row len (m + 1) (p + σ.1 0 27) = ([], p + σ.1 0 27) := zlets_no (by omega)
        rw [hle] at h
        have q3 := h σ (by rw [zwr, zwr]; rw [if_neg (by omega)]; exact eqM.rfl') (hwl.trans (by unfold zdl; simp only [List.length_nil]; split <;> split <;> omega))
        rw [show n + 1 + (([] : List Int).length : Int) = n + 1 by simp] at q3
        exact q3
      · refine z_iconst 1 dX7_readWord_122 rfl ?_
        refine z_goto (tgt := 127) dX7_readWord_123 (by decide) ?_
        refine z_istore_5 dX7_readWord_127 (Nat.le_of_ble_eq_true rfl) rfl ?_
        refine z_iload_5 dX7_readWord_129 ?_
        refine z_if_eq (tgt := 93) dX7_readWord_131 (by decide) ⟨by decide, by decide⟩ (fun c131 => by exfalso; omega) (fun c131 => ?_)
        refine z_aload_0 dX7_readWord_134 ?_
        refine z_iload_3 dX7_readWord_135 ?_
        refine z_callV mX7_see [.int (zI (p + (σ.1 0 27)))] dX7_readWord_136 zk_X7_see zl_X7_125 ⟨Nat.le_of_ble_eq_true rfl, Nat.le_of_ble_eq_true rfl⟩ rfl rfl (Nat.le_of_ble_eq_true rfl) (Nat.le_of_ble_eq_true rfl) ?_
        refine N_X7_see T hT0 hT6 (by omega) cats row len (p + (σ.1 0 27)) hc hrow hln (by omega) (by omega) (by omega) hrow0 ?_
        refine z_b0 ?_
        have w7 := zsee_rg (cats := cats) (row := row) (len := len) hrow0 len.toNat (zst row len (p + (σ.1 0 27))) ((p + (σ.1 0 27)) + 1) (by omega) (by omega) (by omega) (by omega)
        refine z_aload_0 dX7_readWord_139 ?_
        refine z_getR (j := 1) dX7_readWord_140 zf_X7_7 rfl rfl ?_
        refine z_aload_0 dX7_readWord_143 ?_
        refine z_getI (j := 26) dX7_readWord_144 zf_X7_104 rfl rfl ?_
        refine z_top (b := (zsee cats row len len.toNat (zst row len (p + (σ.1 0 27))) ((p + (σ.1 0 27)) + 1)).1) ((zsF_ne (by omega)).trans zsF_eq) ?_
        refine z_iald dX7_readWord_147 rfl (by decide) (by omega) (by omega) ?_
        refine z_top (b := σ.2 1 ((zsee cats row len len.toNat (zst row len (p + (σ.1 0 27))) ((p + (σ.1 0 27)) + 1)).1)) (zsF_A.trans zsF_A) ?_
        have w8 : zR (σ.2 1 ((zsee cats row len len.toNat (zst row len (p + (σ.1 0 27))) ((p + (σ.1 0 27)) + 1)).1)) := hR.2 1 ((zsee cats row len len.toNat (zst row len (p + (σ.1 0 27))) ((p + (σ.1 0 27)) + 1)).1)
        refine z_bipush 11 dX7_readWord_148 (by decide +kernel) ?_
        refine z_icmp_ne (tgt := 157) dX7_readWord_150 (by decide) (by omega) ⟨by decide, by decide⟩ (fun c150 => ?_) (fun c150 => ?_)
        · refine z_iconst 0 dX7_readWord_157 rfl ?_
          refine z_istore_5 dX7_readWord_158 (Nat.le_of_ble_eq_true rfl) rfl ?_
          refine z_goto (tgt := 93) dX7_readWord_160 (by decide) ?_
          refine z_iload_5 dX7_readWord_93 ?_
          refine z_if_eq (tgt := 163) dX7_readWord_95 (by decide) ⟨by decide, by decide⟩ (fun c95 => ?_) (fun c95 => by exfalso; omega)
          rw [hc] at c150
          have hle : zlets cats row len (m + 1) (p + σ.1 0 27) = ([], p + σ.1 0 27) := zlets_ot (by omega) c150
          rw [hle] at h
          have q3 := h (zsF (zsF σ 0 26 ((zsee cats row len len.toNat (zst row len (p + (σ.1 0 27))) ((p + (σ.1 0 27)) + 1)).1)) 0 27 ((zsee cats row len len.toNat (zst row len (p + (σ.1 0 27))) ((p + (σ.1 0 27)) + 1)).2 - (p + (σ.1 0 27)))) (by rw [zwr, zwr]; rw [if_neg (by omega)]; exact (eqM.jF (by unfold zJ; omega) (eqM.jF (by unfold zJ; omega) eqM.rfl'))) (((zsF_ne (by omega)).trans ((zsF_ne (by omega)).trans hwl)).trans (by unfold zdl; simp only [List.length_nil]; split <;> split <;> omega))
          rw [show n + 1 + (([] : List Int).length : Int) = n + 1 by simp] at q3
          exact q3
        · refine z_iconst 1 dX7_readWord_153 rfl ?_
          refine z_goto (tgt := 158) dX7_readWord_154 (by decide) ?_
          refine z_istore_5 dX7_readWord_158 (Nat.le_of_ble_eq_true rfl) rfl ?_
          refine z_goto (tgt := 93) dX7_readWord_160 (by decide) ?_
          refine z_rg (fun hR9 => ?_)
          rw [hc] at c150
          have hle := zlets_le (cats := cats) (row := row) (len := len) (p := p + σ.1 0 27) (m := m) (by omega) c150
          have ew : (zsF (zsF σ 0 26 ((zsee cats row len len.toNat (zst row len (p + (σ.1 0 27))) ((p + (σ.1 0 27)) + 1)).1)) 0 27 ((zsee cats row len len.toNat (zst row len (p + (σ.1 0 27))) ((p + (σ.1 0 27)) + 1)).2 - (p + (σ.1 0 27)))).1 0 27 = (zsee cats row len len.toNat (zst row len (p + σ.1 0 27)) ((p + σ.1 0 27) + 1)).2 - (p + σ.1 0 27) := zsF_eq
          have es : (zsF (zsF σ 0 26 ((zsee cats row len len.toNat (zst row len (p + (σ.1 0 27))) ((p + (σ.1 0 27)) + 1)).1)) 0 27 ((zsee cats row len len.toNat (zst row len (p + (σ.1 0 27))) ((p + (σ.1 0 27)) + 1)).2 - (p + (σ.1 0 27)))).1 0 26 = (zsee cats row len len.toNat (zst row len (p + σ.1 0 27)) ((p + σ.1 0 27) + 1)).1 := (zsF_ne (by omega)).trans zsF_eq
          have el : (zsF (zsF σ 0 26 ((zsee cats row len len.toNat (zst row len (p + (σ.1 0 27))) ((p + (σ.1 0 27)) + 1)).1)) 0 27 ((zsee cats row len len.toNat (zst row len (p + (σ.1 0 27))) ((p + (σ.1 0 27)) + 1)).2 - (p + (σ.1 0 27)))).1 0 29 = zdl (n + 1) := ((zsF_ne (by omega)).trans ((zsF_ne (by omega)).trans hwl)).trans (by unfold zdl; split <;> split <;> omega)
          have en : (p + σ.1 0 27) + ((zsee cats row len len.toNat (zst row len (p + σ.1 0 27)) ((p + σ.1 0 27) + 1)).2 - (p + σ.1 0 27)) = (zsee cats row len len.toNat (zst row len (p + σ.1 0 27)) ((p + σ.1 0 27) + 1)).2 := by omega
          refine ih (zsF (zsF σ 0 26 ((zsee cats row len len.toNat (zst row len (p + (σ.1 0 27))) ((p + (σ.1 0 27)) + 1)).1)) 0 27 ((zsee cats row len len.toNat (zst row len (p + (σ.1 0 27))) ((p + (σ.1 0 27)) + 1)).2 - (p + (σ.1 0 27)))) hR9 (n + 1) (p + σ.1 0 27) (zeqE (b := σ.1 0 10) ((zsF_ne (by omega)).trans (zsF_ne (by omega))) (by omega)) ((zsF_W.trans zsF_W).trans hc) ((zmr_cg (zsF_W.trans zsF_W)).trans hrow) ((zsF_A.trans zsF_A).trans hln) (by omega) (by omega) (by rw [es]; omega) (by rw [es]; omega) (by rw [ew]; omega) (by rw [ew]; omega) (by rw [ew]; omega) el (fun σ2 q1 q2 => ?_)
          rw [ew, en] at q1 q2 ⊢
          rw [es] at q1
          have q3 := h σ2 (by rw [hle, zwr]; exact q1.trans (eqM_wr _ _ _ _ (by rw [if_neg (by omega)]; exact eqM.jF (by unfold zJ; omega) (eqM.jF (by unfold zJ; omega) eqM.rfl')))) (by rw [hle]; exact q2.trans (congrArg zdl (by simp only [List.length_cons]; omega)))
          rw [hle] at q3
          simp only [List.length_cons] at q3
          rw [show n + 1 + (((zlets cats row len m (zsee cats row len len.toNat (zst row len (p + σ.1 0 27)) ((p + σ.1 0 27) + 1)).2).1.length + 1 : Nat) : Int) = n + 1 + 1 + ((zlets cats row len m (zsee cats row len len.toNat (zst row len (p + σ.1 0 27)) ((p + σ.1 0 27) + 1)).2).1.length : Int) by omega] at q3
          exact q3

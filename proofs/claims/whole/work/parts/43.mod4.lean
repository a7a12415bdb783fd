def zlets (cats row : Int → Int) (len : Int) : Nat → Int → List Int × Int
  | 0, p => ([], p)
  | m + 1, p => if 0 ≤ zst row len p then (if cats (zsee cats row len len.toNat (zst row len p) (p + 1)).1 = 11 then ((zsee cats row len len.toNat (zst row len p) (p + 1)).1 :: (zlets cats row len m (zsee cats row len len.toNat (zst row len p) (p + 1)).2).1, (zlets cats row len m (zsee cats row len len.toNat (zst row len p) (p + 1)).2).2) else ([], p)) else ([], p)
theorem zlets_no {cats row : Int → Int} {len p : Int} {m : Nat} (h : zst row len p < 0) : zlets cats row len m p = ([], p) := by
  cases m with
  | zero => rfl
  | succ m => exact if_neg (by omega)
theorem zlets_ot {cats row : Int → Int} {len p : Int} {m : Nat} (h0 : 0 ≤ zst row len p) (h : cats (zsee cats row len len.toNat (zst row len p) (p + 1)).1 ≠ 11) : zlets cats row len m p = ([], p) := by
  cases m with
  | zero => rfl
  | succ m => exact (if_pos h0).trans (if_neg h)
theorem zlets_le {cats row : Int → Int} {len p : Int} {m : Nat} (h0 : 0 ≤ zst row len p) (h : cats (zsee cats row len len.toNat (zst row len p) (p + 1)).1 = 11) : zlets cats row len (m + 1) p = ((zsee cats row len len.toNat (zst row len p) (p + 1)).1 :: (zlets cats row len m (zsee cats row len len.toNat (zst row len p) (p + 1)).2).1, (zlets cats row len m (zsee cats row len len.toNat (zst row len p) (p + 1)).2).2) := (if_pos h0).trans (if_pos h)
theorem zlets_len {cats row : Int → Int} {len : Int} : ∀ (m : Nat) (p : Int), (zlets cats row len m p).1.length ≤ m
  | 0, _ => Nat.le_refl 0
  | m + 1, p => by
    rw [zlets]
    split
    · split
      · exact Nat.succ_le_succ (zlets_len m _)
      · exact Nat.zero_le _
    · exact Nat.zero_le _
def zwr (c : Nat) : zSt → Int → List Int → zSt
  | σ, _, [] => σ
  | σ, k, s :: L => zwr c (if k < 40 then zsA σ c k s else σ) (k + 1) L
theorem eqM_wr {c : Nat} : ∀ (L : List Int) (a b : zSt) (k : Int), eqM a b → eqM (zwr c a k L) (zwr c b k L)
  | [], _, _, _, h => h
  | s :: L, a, b, k, h => by
    rw [zwr, zwr]
    refine eqM_wr L _ _ _ ?_
    split
    · exact h.A
    · exact h
theorem zwr_F {c : Nat} : ∀ (L : List Int) (a : zSt) (k : Int), (zwr c a k L).1 = a.1
  | [], _, _ => rfl
  | s :: L, a, k => by
    rw [zwr, zwr_F L]
    split <;> rfl
theorem zwr_A {c i : Nat} (h : i ≠ c) : ∀ (L : List Int) (a : zSt) (k : Int), (zwr c a k L).2 i = a.2 i
  | [], _, _ => rfl
  | s :: L, a, k => by
    rw [zwr, zwr_A h L]
    split
    · exact zsA_arr h
    · rfl

theorem zmr_cg {r r' : Int → Int} {t : Int} (e : r = r') : zmr r t = zmr r' t := by rw [e]
theorem N_X7_see {G : zG} {σ : zSt} {Post : Option Value → zSt → Prop} (T : Int) (hT0 : 0 ≤ T) (hT6 : T < 6) (hT : σ.1 0 10 = T + 1) (cats row : Int → Int) (len z : Int) (hc : σ.2 1 = cats) (hrow : zmr (σ.2 9) T = row) (hln : σ.2 10 T = len) (hz0 : 0 ≤ z) (hz : z < len) (hl : len ≤ 121) (hrow0 : ∀ q, 0 ≤ row q ∧ row q ≤ 255) (h : Post none (zsF (zsF σ 0 26 (zsee cats row len len.toNat (zst row len z) (z + 1)).1) 0 27 ((zsee cats row len len.toNat (zst row len z) (z + 1)).2 - z))) : zV G shM mX7_see 0 (zini 4 [.ref (zad G 0), .int (zI z)]) [] σ Post := by
  subst hc; subst hrow; subst hln
  refine M_X7_see T hT0 hT6 hT z hz0 hz hl (fun q => ?_) h
  have := hrow0 (q - 128 * T)
  rw [zmr, show 128 * T + (q - 128 * T) = q by omega] at this
  exact this
theorem N_X7_standing {G : zG} {σ : zSt} {Post : Option Value → zSt → Prop} (T : Int) (hT0 : 0 ≤ T) (hT6 : T < 6) (hT : σ.1 0 10 = T + 1) (row : Int → Int) (len z : Int) (hrow : zmr (σ.2 9) T = row) (hln : σ.2 10 T = len) (hz0 : 0 ≤ z) (hz : zR z) (hl : len ≤ 121) (h : Post (some (.int (zI (zst row len z)))) σ) : zV G shM mX7_standing 0 (zini 3 [.ref (zad G 0), .int (zI z)]) [] σ Post := by
  subst hrow; subst hln
  exact M_X7_standing T hT0 hT6 hT z hz0 hz hl h
theorem zst_R2 {row : Int → Int} (h : ∀ q, 0 ≤ row q ∧ row q ≤ 255) (len p : Int) : -1 ≤ zst row len p ∧ zst row len p ≤ 255 := by unfold zst; split; have := h p; omega; omega

theorem N_X7_addToWord {G : zG} {σ : zSt} {Post : Option Value → zSt → Prop} (n s : Int) (hs : σ.1 0 26 = s) (hn0 : 0 ≤ n) (hn : n ≤ 1000) (h1 : n < 40 → Post none (zsF (zsA σ 18 n s) 0 29 (n + 1))) (h0 : 40 ≤ n → Post none σ) : zV G shM mX7_addToWord 0 (zini 2 [.ref (zad G 0), .int (zI n)]) [] σ Post := M_X7_addToWord n hn0 hn (fun q => by rw [hs]; exact h1 q) h0
theorem zst_neg {row : Int → Int} {len p : Int} (h : ∀ q, 0 ≤ row q ∧ row q ≤ 255) (h0 : 0 ≤ p) (hn : zst row len p < 0) : len ≤ p := by
  rcases Decidable.em (p < len) with q | q
  · rw [zst_in h0 q] at hn; have := h p; omega
  · omega
theorem zst_pos {row : Int → Int} {len p : Int} (hn : 0 ≤ zst row len p) : p < len := (zst_lt hn).2

set_option maxRecDepth 100000 in
theorem L_X7_letters {G : zG} {σ : zSt} {Post : Option Value → zSt → Prop} (T : Int) (hT0 : 0 ≤ T) (hT6 : T < 6) (cats row : Int → Int) (len fr : Int) (hl : len ≤ 121) (hrow0 : ∀ q, 0 ≤ row q ∧ row q ≤ 255) : ∀ (m : Nat) (σ : zSt) (hR : zRg σ) (n p : Int) (hT : σ.1 0 10 = T + 1) (hc : σ.2 1 = cats) (hrow : zmr (σ.2 9) T = row) (hln : σ.2 10 T = len) (hn0 : 0 ≤ n) (hnp : n ≤ p) (hs0 : 0 ≤ σ.1 0 26) (hs1 : σ.1 0 26 ≤ 255) (hw : 1 ≤ σ.1 0 27) (hpw : p + σ.1 0 27 ≤ len) (hm : len - (p + σ.1 0 27) ≤ m) (hwl : σ.1 0 29 = zdl n) (h : ∀ σ2, eqM σ2 (zwr 18 σ n (σ.1 0 26 :: (zlets cats row len m (p + σ.1 0 27)).1)) → σ2.1 0 29 = zdl (n + 1 + ((zlets cats row len m (p + σ.1 0 27)).1.length : Int)) → zV G shM mX7_readWord 163 [some (.ref (zad G 0)), some (.int (zI fr)), some (.int (zI T)), some (.int (zI (zlets cats row len m (p + σ.1 0 27)).2)), some (.int (zI (n + 1 + ((zlets cats row len m (p + σ.1 0 27)).1.length : Int)))), some (.int (zI 0))] [] σ2 Post), zV G shM mX7_readWord 93 [some (.ref (zad G 0)), some (.int (zI fr)), some (.int (zI T)), some (.int (zI p)), some (.int (zI n)), some (.int (zI 1))] [] σ Post := by
  intro m
  induction m with
  | zero =>
    intro σ hR n p hT hc hrow hln hn0 hnp hs0 hs1 hw hpw hm hwl h
    have hst : zst row len (p + σ.1 0 27) < 0 := by rw [zst_out (by omega)]; decide
    refine z_iload_5 dX7_readWord_93 ?_
    refine z_if_eq (tgt := 163) dX7_readWord_95 (by decide) ⟨by decide, by decide⟩ (fun c95 => by exfalso; omega) (fun c95 => ?_)
    refine z_aload_0 dX7_readWord_98 ?_
    refine z_iload_4 dX7_readWord_99 ?_
    refine z_callV mX7_addToWord [.int (zI n)] dX7_readWord_101 zk_X7_addToWord zl_X7_129 ⟨Nat.le_of_ble_eq_true rfl, Nat.le_of_ble_eq_true rfl⟩ rfl rfl (Nat.le_of_ble_eq_true rfl) (Nat.le_of_ble_eq_true rfl) ?_
    refine M_X7_addToWord n (by omega) (by omega) (fun i1 => ?_) (fun i1 => ?_)
    · refine z_b0 ?_
      refine z_iinc_4 dX7_readWord_104 (Nat.le_of_ble_eq_true rfl) rfl ?_
      refine z_iload_3 dX7_readWord_107 ?_
      refine z_aload_0 dX7_readWord_108 ?_
      refine z_getI (j := 27) dX7_readWord_109 zf_X7_107 rfl rfl ?_
      refine z_top (b := σ.1 0 27) ((zsF_ne (by omega)).trans zsA_F) ?_
      have w1 : zR (σ.1 0 27) := hR.1 0 27
      refine z_iadd dX7_readWord_112 ?_
      refine z_istore_3 dX7_readWord_113 (Nat.le_of_ble_eq_true rfl) rfl ?_
      refine z_aload_0 dX7_readWord_114 ?_
      refine z_iload_3 dX7_readWord_115 ?_
      refine z_callV mX7_standing [.int (zI (p + (σ.1 0 27)))] dX7_readWord_116 zk_X7_standing zl_X7_100 ⟨Nat.le_of_ble_eq_true rfl, Nat.le_of_ble_eq_true rfl⟩ rfl rfl (Nat.le_of_ble_eq_true rfl) (Nat.le_of_ble_eq_true rfl) ?_
      refine N_X7_standing T hT0 hT6 (zeqE (b := σ.1 0 10) ((zsF_ne (by omega)).trans zsA_F) (by omega)) row len (p + (σ.1 0 27)) ((zmr_cg (zsF_W.trans (zsA_arr (by omega)))).trans hrow) ((zsF_A.trans (zsA_ne1 (by omega))).trans hln) (by omega) (by omega) (by omega) ?_
      refine z_b1 ?_
      have w2 := zst_R2 hrow0 len (p + (σ.1 0 27))
      refine z_if_lt (tgt := 126) dX7_readWord_119 (by decide) (by omega) (fun c119 => ?_) (fun c119 => by exfalso; omega)
      refine z_iconst 0 dX7_readWord_126 rfl ?_
      refine z_istore_5 dX7_readWord_127 (Nat.le_of_ble_eq_true rfl) rfl ?_
      refine z_iload_5 dX7_readWord_129 ?_
      refine z_if_eq (tgt := 93) dX7_readWord_131 (by decide) ⟨by decide, by decide⟩ (fun c131 => ?_) (fun c131 => by exfalso; omega)
      refine z_iload_5 dX7_readWord_93 ?_
      refine z_if_eq (tgt := 163) dX7_readWord_95 (by decide) ⟨by decide, by decide⟩ (fun c95 => ?_) (fun c95 => by exfalso; omega)
      have hle : zlets cats row len 0 (p + σ.1 0 27) = ([], p + σ.1 0 27) := zlets_no (by omega)
      rw [hle] at h
      have q3 := h (zsF (zsA σ 18 n (σ.1 0 26)) 0 29 (n + 1)) (by rw [zwr, zwr]; rw [if_pos i1]; exact (eqM.jF (by unfold zJ; omega) eqM.rfl')) (zsF_eq.trans (by unfold zdl; rw [if_neg (by simp only [List.length_nil]; omega)]; simp only [List.length_nil]; omega))
      rw [show n + 1 + (([] : List Int).length : Int) = n + 1 by simp] at q3
      exact q3
    · refine z_b0 ?_
      refine z_iinc_4 dX7_readWord_104 (Nat.le_of_ble_eq_true rfl) rfl ?_
      refine z_iload_3 dX7_readWord_107 ?_
      refine z_aload_0 dX7_readWord_108 ?_
      refine z_getI (j := 27) dX7_readWord_109 zf_X7_107 rfl rfl ?_
      have w3 : zR (σ.1 0 27) := hR.1 0 27
      refine z_iadd dX7_readWord_112 ?_
      refine z_istore_3 dX7_readWord_113 (Nat.le_of_ble_eq_true rfl) rfl ?_
      refine z_aload_0 dX7_readWord_114 ?_
      refine z_iload_3 dX7_readWord_115 ?_
      refine z_callV mX7_standing [.int (zI (p + (σ.1 0 27)))] dX7_readWord_116 zk_X7_standing zl_X7_100 ⟨Nat.le_of_ble_eq_true rfl, Nat.le_of_ble_eq_true rfl⟩ rfl rfl (Nat.le_of_ble_eq_true rfl) (Nat.le_of_ble_eq_true rfl) ?_
      refine N_X7_standing T hT0 hT6 (by omega) row len (p + (σ.1 0 27)) hrow hln (by omega) (by omega) (by omega) ?_
      refine z_b1 ?_
      have w4 := zst_R2 hrow0 len (p + (σ.1 0 27))
      refine z_if_lt (tgt := 126) dX7_readWord_119 (by decide) (by omega) (fun c119 => ?_) (fun c119 => by exfalso; omega)
      refine z_iconst 0 dX7_readWord_126 rfl ?_
      refine z_istore_5 dX7_readWord_127 (Nat.le_of_ble_eq_true rfl) rfl ?_
      refine z_iload_5 dX7_readWord_129 ?_
      refine z_if_eq (tgt := 93) dX7_readWord_131 (by decide) ⟨by decide, by decide⟩ (fun c131 => ?_) (fun c131 => by exfalso; omega)
      refine z_iload_5 dX7_readWord_93 ?_
      refine z_if_eq (tgt := 163) dX7_readWord_95 (by decide) ⟨by decide, by decide⟩ (fun c95 => ?_) (fun c95 => by exfalso; omega)
      have hle : zlets cats row len 0 (p + σ.1 0 27) = ([], p + σ.1 0 27) := zlets_no (by omega)
      rw [hle] at h
      have q3 := h σ (by rw [zwr, zwr]; rw [if_neg (by omega)]; exact eqM.rfl') (hwl.trans (by unfold zdl; simp only [List.length_nil]; split <;> split <;> omega))
      rw [show n + 1 + (([] : List Int).length : Int) = n + 1 by simp] at q3
      exact q3
  | succ m ih =>
    intro σ hR n p hT hc hrow hln hn0 hnp hs0 hs1 hw hpw hm hwl h
    have hst := zst_neg (row := row) (len := len) (p := p + σ.1 0 27) hrow0 (by omega)
    have hst2 := zst_pos (row := row) (len := len) (p := p + σ.1 0 27)
    refine z_iload_5 dX7_readWord_93 ?_
    refine z_if_eq (tgt := 163) dX7_readWord_95 (by decide) ⟨by decide, by decide⟩ (fun c95 => by exfalso; omega) (fun c95 => ?_)
    refine z_aload_0 dX7_readWord_98 ?_
    refine z_iload_4 dX7_readWord_99 ?_
    refine z_callV mX7_addToWord [.int (zI n)] dX7_readWord_101 zk_X7_addToWord zl_X7_129 ⟨Nat.le_of_ble_eq_true rfl, Nat.le_of_ble_eq_true rfl⟩ rfl rfl (Nat.le_of_ble_eq_true rfl) (Nat.le_of_ble_eq_true rfl) ?_
    refine M_X7_addToWord n (by omega) (by omega) (fun i1 => ?_) (fun i1 => ?_)
    · refine z_b0 ?_
      refine z_iinc_4 dX7_readWord_104 (Nat.le_of_ble_eq_true rfl) rfl ?_
      refine z_iload_3 dX7_readWord_107 ?_
      refine z_aload_0 dX7_readWord_108 ?_
      refine z_getI (j := 27) dX7_readWord_109 zf_X7_107 rfl rfl ?_
      refine z_top (b := σ.1 0 27) ((zsF_ne (by omega)).trans zsA_F) ?_
      have w1 : zR (σ.1 0 27) := hR.1 0 27
      refine z_iadd dX7_readWord_112 ?_
      refine z_istore_3 dX7_readWord_113 (Nat.le_of_ble_eq_true rfl) rfl ?_
      refine z_aload_0 dX7_readWord_114 ?_
      refine z_iload_3 dX7_readWord_115 ?_
      refine z_callV mX7_standing [.int (zI (p + (σ.1 0 27)))] dX7_readWord_116 zk_X7_standing zl_X7_100 ⟨Nat.le_of_ble_eq_true rfl, Nat.le_of_ble_eq_true rfl⟩ rfl rfl (Nat.le_of_ble_eq_true rfl) (Nat.le_of_ble_eq_true rfl) ?_
      refine N_X7_standing T hT0 hT6 (zeqE (b := σ.1 0 10) ((zsF_ne (by omega)).trans zsA_F) (by omega)) row len (p + (σ.1 0 27)) ((zmr_cg (zsF_W.trans (zsA_arr (by omega)))).trans hrow) ((zsF_A.trans (zsA_ne1 (by omega))).trans hln) (by omega) (by omega) (by omega) ?_
      refine z_b1 ?_
      have w2 := zst_R2 hrow0 len (p + (σ.1 0 27))
      refine z_if_lt (tgt := 126) dX7_readWord_119 (by decide) (by omega) (fun c119 => ?_) (fun c119 => ?_)
      · refine z_iconst 0 dX7_readWord_126 rfl ?_
        refine z_istore_5 dX7_readWord_127 (Nat.le_of_ble_eq_true rfl) rfl ?_
        refine z_iload_5 dX7_readWord_129 ?_
        refine z_if_eq (tgt := 93) dX7_readWord_131 (by decide) ⟨by decide, by decide⟩ (fun c131 => ?_) (fun c131 => by exfalso; omega)
        refine z_iload_5 dX7_readWord_93 ?_
        refine z_if_eq (tgt := 163) dX7_readWord_95 (by decide) ⟨by decide, by decide⟩ (fun c95 => ?_) (fun c95 => by exfalso; omega)
        have hle : zlets cats row len (m + 1) (p + σ.1 0 27) = ([], p + σ.1 0 27) := zlets_no (by omega)
        rw [hle] at h
        have q3 := h (zsF (zsA σ 18 n (σ.1 0 26)) 0 29 (n + 1)) (by rw [zwr, zwr]; rw [if_pos i1]; exact (eqM.jF (by unfold zJ; omega) eqM.rfl')) (zsF_eq.trans (by unfold zdl; rw [if_neg (by simp only [List.length_nil]; omega)]; simp only [List.length_nil]; omega))
        rw [show n + 1 + (([] : List Int).length : Int) = n + 1 by simp] at q3
        exact q3
      · refine z_iconst 1 dX7_readWord_122 rfl ?_
        refine z_goto (tgt := 127) dX7_readWord_123 (by decide) ?_
        refine z_istore_5 dX7_readWord_127 (Nat.le_of_ble_eq_true rfl) rfl ?_
        refine z_iload_5 dX7_readWord_129 ?_
        refine z_if_eq (tgt := 93) dX7_readWord_131 (by decide) ⟨by decide, by decide⟩ (fun c131 => by exfalso; omega) (fun c131 => ?_)
        refine z_aload_0 dX7_readWord_134 ?_
        refine z_iload_3 dX7_readWord_135 ?_
        refine z_callV mX7_see [.int (zI (p + (σ.1 0 27)))] dX7_readWord_136 zk_X7_see zl_X7_125 ⟨Nat.le_of_ble_eq_true rfl, Nat.le_of_ble_eq_true rfl⟩ rfl rfl (Nat.le_of_ble_eq_true rfl) (Nat.le_of_ble_eq_true rfl) ?_
        refine N_X7_see T hT0 hT6 (zeqE (b := σ.1 0 10) ((zsF_ne (by omega)).trans zsA_F) (by omega)) cats row len (p + (σ.1 0 27)) ((zsF_W.trans (zsA_arr (by omega))).trans hc) ((zmr_cg (zsF_W.trans (zsA_arr (by omega)))).trans hrow) ((zsF_A.trans (zsA_ne1 (by omega))).trans hln) (by omega) (by omega) (by omega) hrow0 ?_
        refine z_b0 ?_
        have w3 := zsee_rg (cats := cats) (row := row) (len := len) hrow0 (len).toNat (zst row len (p + (σ.1 0 27))) ((p + (σ.1 0 27)) + 1) (by omega) (by omega) (by omega) (by omega)
        refine z_aload_0 dX7_readWord_139 ?_
        refine z_getR (j := 1) dX7_readWord_140 zf_X7_7 rfl rfl ?_
        refine z_aload_0 dX7_readWord_143 ?_
        refine z_getI (j := 26) dX7_readWord_144 zf_X7_104 rfl rfl ?_
        refine z_top (b := (zsee cats row len (len).toNat (zst row len (p + (σ.1 0 27))) ((p + (σ.1 0 27)) + 1)).1) ((zsF_ne (by omega)).trans zsF_eq) ?_
        refine z_iald dX7_readWord_147 rfl (by decide) (by omega) (by omega) ?_
        refine z_top (b := σ.2 1 ((zsee cats row len (len).toNat (zst row len (p + (σ.1 0 27))) ((p + (σ.1 0 27)) + 1)).1)) (zsF_A.trans (zsF_A.trans (zsF_A.trans (zsA_ne1 (by omega))))) ?_
        have w4 : zR (σ.2 1 ((zsee cats row len (len).toNat (zst row len (p + (σ.1 0 27))) ((p + (σ.1 0 27)) + 1)).1)) := hR.2 1 ((zsee cats row len (len).toNat (zst row len (p + (σ.1 0 27))) ((p + (σ.1 0 27)) + 1)).1)
        refine z_bipush 11 dX7_readWord_148 (by decide +kernel) ?_
        refine z_icmp_ne (tgt := 157) dX7_readWord_150 (by decide) (by omega) ⟨by decide, by decide⟩ (fun c150 => ?_) (fun c150 => ?_)
        · refine z_iconst 0 dX7_readWord_157 rfl ?_
          refine z_istore_5 dX7_readWord_158 (Nat.le_of_ble_eq_true rfl) rfl ?_
          refine z_goto (tgt := 93) dX7_readWord_160 (by decide) ?_
          refine z_iload_5 dX7_readWord_93 ?_
          refine z_if_eq (tgt := 163) dX7_readWord_95 (by decide) ⟨by decide, by decide⟩ (fun c95 => ?_) (fun c95 => by exfalso; omega)
          rw [hc] at c150
          have hle : zlets cats row len (m + 1) (p + σ.1 0 27) = ([], p + σ.1 0 27) := zlets_ot (by omega) c150
          rw [hle] at h
          have q3 := h (zsF (zsF (zsF (zsA σ 18 n (σ.1 0 26)) 0 29 (n + 1)) 0 26 ((zsee cats row len (len).toNat (zst row len (p + (σ.1 0 27))) ((p + (σ.1 0 27)) + 1)).1)) 0 27 ((zsee cats row len (len).toNat (zst row len (p + (σ.1 0 27))) ((p + (σ.1 0 27)) + 1)).2 - (p + (σ.1 0 27)))) (by rw [zwr, zwr]; rw [if_pos i1]; exact (eqM.jF (by unfold zJ; omega) (eqM.jF (by unfold zJ; omega) (eqM.jF (by unfold zJ; omega) eqM.rfl')))) (((zsF_ne (by omega)).trans ((zsF_ne (by omega)).trans zsF_eq)).trans (by unfold zdl; rw [if_neg (by simp only [List.length_nil]; omega)]; simp only [List.length_nil]; omega))
          rw [show n + 1 + (([] : List Int).length : Int) = n + 1 by simp] at q3
          exact q3
        · refine z_iconst 1 dX7_readWord_153 rfl ?_
          refine z_goto (tgt := 158) dX7_readWord_154 (by decide) ?_
          refine z_istore_5 dX7_readWord_158 (Nat.le_of_ble_eq_true rfl) rfl ?_
          refine z_goto (tgt := 93) dX7_readWord_160 (by decide) ?_
          refine z_rg (fun hR9 => ?_)
          rw [hc] at c150
          have hle := zlets_le (cats := cats) (row := row) (len := len) (p := p + σ.1 0 27) (m := m) (by omega) c150
          have ew : (zsF (zsF (zsF (zsA σ 18 n (σ.1 0 26)) 0 29 (n + 1)) 0 26 ((zsee cats row len (len).toNat (zst row len (p + (σ.1 0 27))) ((p + (σ.1 0 27)) + 1)).1)) 0 27 ((zsee cats row len (len).toNat (zst row len (p + (σ.1 0 27))) ((p + (σ.1 0 27)) + 1)).2 - (p + (σ.1 0 27)))).1 0 27 = (zsee cats row len (len).toNat (zst row len (p + σ.1 0 27)) ((p + σ.1 0 27) + 1)).2 - (p + σ.1 0 27) := zsF_eq
          have es : (zsF (zsF (zsF (zsA σ 18 n (σ.1 0 26)) 0 29 (n + 1)) 0 26 ((zsee cats row len (len).toNat (zst row len (p + (σ.1 0 27))) ((p + (σ.1 0 27)) + 1)).1)) 0 27 ((zsee cats row len (len).toNat (zst row len (p + (σ.1 0 27))) ((p + (σ.1 0 27)) + 1)).2 - (p + (σ.1 0 27)))).1 0 26 = (zsee cats row len (len).toNat (zst row len (p + σ.1 0 27)) ((p + σ.1 0 27) + 1)).1 := (zsF_ne (by omega)).trans zsF_eq
          have el : (zsF (zsF (zsF (zsA σ 18 n (σ.1 0 26)) 0 29 (n + 1)) 0 26 ((zsee cats row len (len).toNat (zst row len (p + (σ.1 0 27))) ((p + (σ.1 0 27)) + 1)).1)) 0 27 ((zsee cats row len (len).toNat (zst row len (p + (σ.1 0 27))) ((p + (σ.1 0 27)) + 1)).2 - (p + (σ.1 0 27)))).1 0 29 = zdl (n + 1) := ((zsF_ne (by omega)).trans ((zsF_ne (by omega)).trans zsF_eq)).trans (by unfold zdl; rw [if_neg (by omega)])
          have en : (p + σ.1 0 27) + ((zsee cats row len (len).toNat (zst row len (p + σ.1 0 27)) ((p + σ.1 0 27) + 1)).2 - (p + σ.1 0 27)) = (zsee cats row len (len).toNat (zst row len (p + σ.1 0 27)) ((p + σ.1 0 27) + 1)).2 := by omega
          refine ih (zsF (zsF (zsF (zsA σ 18 n (σ.1 0 26)) 0 29 (n + 1)) 0 26 ((zsee cats row len (len).toNat (zst row len (p + (σ.1 0 27))) ((p + (σ.1 0 27)) + 1)).1)) 0 27 ((zsee cats row len (len).toNat (zst row len (p + (σ.1 0 27))) ((p + (σ.1 0 27)) + 1)).2 - (p + (σ.1 0 27)))) hR9 (n + 1) (p + σ.1 0 27) (zeqE (b := σ.1 0 10) ((zsF_ne (by omega)).trans ((zsF_ne (by omega)).trans ((zsF_ne (by omega)).trans zsA_F))) (by omega)) ((zsF_W.trans (zsF_W.trans (zsF_W.trans (zsA_arr (by omega))))).trans hc) ((zmr_cg (zsF_W.trans (zsF_W.trans (zsF_W.trans (zsA_arr (by omega)))))).trans hrow) ((zsF_A.trans (zsF_A.trans (zsF_A.trans (zsA_ne1 (by omega))))).trans hln) (by omega) (by omega) (by rw [es]; omega) (by rw [es]; omega) (by rw [ew]; omega) (by rw [ew]; omega) (by rw [ew]; omega) el (fun σ2 q1 q2 => ?_)
          rw [ew, en] at q1 q2 ⊢
          rw [es] at q1
          have q3 := h σ2 (by rw [hle, zwr]; exact q1.trans (eqM_wr _ _ _ _ (by rw [if_pos i1]; exact eqM.jF (by unfold zJ; omega) (eqM.jF (by unfold zJ; omega) (eqM.jF (by unfold zJ; omega) eqM.rfl'))))) (by rw [hle]; exact q2.trans (congrArg zdl (by simp only [List.length_cons]; omega)))
          rw [hle] at q3
          simp only [List.length_cons] at q3
          rw [show n + 1 + (((zlets cats row len m (zsee cats row len (len).toNat (zst row len (p + σ.1 0 27)) ((p + σ.1 0 27) + 1)).2).1.length + 1 : Nat) : Int) = n + 1 + 1 + ((zlets cats row len m (zsee cats row len (len).toNat (zst row len (p + σ.1 0 27)) ((p + σ.1 0 27) + 1)).2).1.length : Int) by omega] at q3
          exact q3
    · refine z_b0 ?_
      refine z_iinc_4 dX7_readWord_104 (Nat.le_of_ble_eq_true rfl) rfl ?_
      refine z_iload_3 dX7_readWord_107 ?_
      refine z_aload_0 dX7_readWord_108 ?_
      refine z_getI (j := 27) dX7_readWord_109 zf_X7_107 rfl rfl ?_
      have w5 : zR (σ.1 0 27) := hR.1 0 27
      refine z_iadd dX7_readWord_112 ?_
      refine z_istore_3 dX7_readWord_113 (Nat.le_of_ble_eq_true rfl) rfl ?_
      refine z_aload_0 dX7_readWord_114 ?_
      refine z_iload_3 dX7_readWord_115 ?_
      refine z_callV mX7_standing [.int (zI (p + (σ.1 0 27)))] dX7_readWord_116 zk_X7_standing zl_X7_100 ⟨Nat.le_of_ble_eq_true rfl, Nat.le_of_ble_eq_true rfl⟩ rfl rfl (Nat.le_of_ble_eq_true rfl) (Nat.le_of_ble_eq_true rfl) ?_
      refine N_X7_standing T hT0 hT6 (by omega) row len (p + (σ.1 0 27)) hrow hln (by omega) (by omega) (by omega) ?_
      refine z_b1 ?_
      have w6 := zst_R2 hrow0 len (p + (σ.1 0 27))
      refine z_if_lt (tgt := 126) dX7_readWord_119 (by decide) (by omega) (fun c119 => ?_) (fun c119 => ?_)
      · refine z_iconst 0 dX7_readWord_126 rfl ?_
        refine z_istore_5 dX7_readWord_127 (Nat.le_of_ble_eq_true rfl) rfl ?_
        refine z_iload_5 dX7_readWord_129 ?_
        refine z_if_eq (tgt := 93) dX7_readWord_131 (by decide) ⟨by decide, by decide⟩ (fun c131 => ?_) (fun c131 => by exfalso; omega)
        refine z_iload_5 dX7_readWord_93 ?_
        refine z_if_eq (tgt := 163) dX7_readWord_95 (by decide) ⟨by decide, by decide⟩ (fun c95 => ?_) (fun c95 => by exfalso; omega)
        have hle : zlets cats row len (m + 1) (p + σ.1 0 27) = ([], p + σ.1 0 27) := zlets_no (by omega)
        rw [hle] at h
        have q3 := h σ (by rw [zwr, zwr]; rw [if_neg (by omega)]; exact eqM.rfl') (hwl.trans (by unfold zdl; simp only [List.length_nil]; split <;> split <;> omega))
        rw [show n + 1 + (([] : List Int).length : Int) = n + 1 by simp] at q3
        exact q3
      · refine z_iconst 1 dX7_readWord_122 rfl ?_
        refine z_goto (tgt := 127) dX7_readWord_123 (by decide) ?_
        refine z_istore_5 dX7_readWord_127 (Nat.le_of_ble_eq_true rfl) rfl ?_
        refine z_iload_5 dX7_readWord_129 ?_
        refine z_if_eq (tgt := 93) dX7_readWord_131 (by decide) ⟨by decide, by decide⟩ (fun c131 => by exfalso; omega) (fun c131 => ?_)
        refine z_aload_0 dX7_readWord_134 ?_
        refine z_iload_3 dX7_readWord_135 ?_
        refine z_callV mX7_see [.int (zI (p + (σ.1 0 27)))] dX7_readWord_136 zk_X7_see zl_X7_125 ⟨Nat.le_of_ble_eq_true rfl, Nat.le_of_ble_eq_true rfl⟩ rfl rfl (Nat.le_of_ble_eq_true rfl) (Nat.le_of_ble_eq_true rfl) ?_
        refine N_X7_see T hT0 hT6 (by omega) cats row len (p + (σ.1 0 27)) hc hrow hln (by omega) (by omega) (by omega) hrow0 ?_
        refine z_b0 ?_
        have w7 := zsee_rg (cats := cats) (row := row) (len := len) hrow0 (len).toNat (zst row len (p + (σ.1 0 27))) ((p + (σ.1 0 27)) + 1) (by omega) (by omega) (by omega) (by omega)
        refine z_aload_0 dX7_readWord_139 ?_
        refine z_getR (j := 1) dX7_readWord_140 zf_X7_7 rfl rfl ?_
        refine z_aload_0 dX7_readWord_143 ?_
        refine z_getI (j := 26) dX7_readWord_144 zf_X7_104 rfl rfl ?_
        refine z_top (b := (zsee cats row len (len).toNat (zst row len (p + (σ.1 0 27))) ((p + (σ.1 0 27)) + 1)).1) ((zsF_ne (by omega)).trans zsF_eq) ?_
        refine z_iald dX7_readWord_147 rfl (by decide) (by omega) (by omega) ?_
        refine z_top (b := σ.2 1 ((zsee cats row len (len).toNat (zst row len (p + (σ.1 0 27))) ((p + (σ.1 0 27)) + 1)).1)) (zsF_A.trans zsF_A) ?_
        have w8 : zR (σ.2 1 ((zsee cats row len (len).toNat (zst row len (p + (σ.1 0 27))) ((p + (σ.1 0 27)) + 1)).1)) := hR.2 1 ((zsee cats row len (len).toNat (zst row len (p + (σ.1 0 27))) ((p + (σ.1 0 27)) + 1)).1)
        refine z_bipush 11 dX7_readWord_148 (by decide +kernel) ?_
        refine z_icmp_ne (tgt := 157) dX7_readWord_150 (by decide) (by omega) ⟨by decide, by decide⟩ (fun c150 => ?_) (fun c150 => ?_)
        · refine z_iconst 0 dX7_readWord_157 rfl ?_
          refine z_istore_5 dX7_readWord_158 (Nat.le_of_ble_eq_true rfl) rfl ?_
          refine z_goto (tgt := 93) dX7_readWord_160 (by decide) ?_
          refine z_iload_5 dX7_readWord_93 ?_
          refine z_if_eq (tgt := 163) dX7_readWord_95 (by decide) ⟨by decide, by decide⟩ (fun c95 => ?_) (fun c95 => by exfalso; omega)
          rw [hc] at c150
          have hle : zlets cats row len (m + 1) (p + σ.1 0 27) = ([], p + σ.1 0 27) := zlets_ot (by omega) c150
          rw [hle] at h
          have q3 := h (zsF (zsF σ 0 26 ((zsee cats row len (len).toNat (zst row len (p + (σ.1 0 27))) ((p + (σ.1 0 27)) + 1)).1)) 0 27 ((zsee cats row len (len).toNat (zst row len (p + (σ.1 0 27))) ((p + (σ.1 0 27)) + 1)).2 - (p + (σ.1 0 27)))) (by rw [zwr, zwr]; rw [if_neg (by omega)]; exact (eqM.jF (by unfold zJ; omega) (eqM.jF (by unfold zJ; omega) eqM.rfl'))) (((zsF_ne (by omega)).trans ((zsF_ne (by omega)).trans hwl)).trans (by unfold zdl; simp only [List.length_nil]; split <;> split <;> omega))
          rw [show n + 1 + (([] : List Int).length : Int) = n + 1 by simp] at q3
          exact q3
        · refine z_iconst 1 dX7_readWord_153 rfl ?_
          refine z_goto (tgt := 158) dX7_readWord_154 (by decide) ?_
          refine z_istore_5 dX7_readWord_158 (Nat.le_of_ble_eq_true rfl) rfl ?_
          refine z_goto (tgt := 93) dX7_readWord_160 (by decide) ?_
          refine z_rg (fun hR9 => ?_)
          rw [hc] at c150
          have hle := zlets_le (cats := cats) (row := row) (len := len) (p := p + σ.1 0 27) (m := m) (by omega) c150
          have ew : (zsF (zsF σ 0 26 ((zsee cats row len (len).toNat (zst row len (p + (σ.1 0 27))) ((p + (σ.1 0 27)) + 1)).1)) 0 27 ((zsee cats row len (len).toNat (zst row len (p + (σ.1 0 27))) ((p + (σ.1 0 27)) + 1)).2 - (p + (σ.1 0 27)))).1 0 27 = (zsee cats row len (len).toNat (zst row len (p + σ.1 0 27)) ((p + σ.1 0 27) + 1)).2 - (p + σ.1 0 27) := zsF_eq
          have es : (zsF (zsF σ 0 26 ((zsee cats row len (len).toNat (zst row len (p + (σ.1 0 27))) ((p + (σ.1 0 27)) + 1)).1)) 0 27 ((zsee cats row len (len).toNat (zst row len (p + (σ.1 0 27))) ((p + (σ.1 0 27)) + 1)).2 - (p + (σ.1 0 27)))).1 0 26 = (zsee cats row len (len).toNat (zst row len (p + σ.1 0 27)) ((p + σ.1 0 27) + 1)).1 := (zsF_ne (by omega)).trans zsF_eq
          have el : (zsF (zsF σ 0 26 ((zsee cats row len (len).toNat (zst row len (p + (σ.1 0 27))) ((p + (σ.1 0 27)) + 1)).1)) 0 27 ((zsee cats row len (len).toNat (zst row len (p + (σ.1 0 27))) ((p + (σ.1 0 27)) + 1)).2 - (p + (σ.1 0 27)))).1 0 29 = zdl (n + 1) := ((zsF_ne (by omega)).trans ((zsF_ne (by omega)).trans hwl)).trans (by unfold zdl; split <;> split <;> omega)
          have en : (p + σ.1 0 27) + ((zsee cats row len (len).toNat (zst row len (p + σ.1 0 27)) ((p + σ.1 0 27) + 1)).2 - (p + σ.1 0 27)) = (zsee cats row len (len).toNat (zst row len (p + σ.1 0 27)) ((p + σ.1 0 27) + 1)).2 := by omega
          refine ih (zsF (zsF σ 0 26 ((zsee cats row len (len).toNat (zst row len (p + (σ.1 0 27))) ((p + (σ.1 0 27)) + 1)).1)) 0 27 ((zsee cats row len (len).toNat (zst row len (p + (σ.1 0 27))) ((p + (σ.1 0 27)) + 1)).2 - (p + (σ.1 0 27)))) hR9 (n + 1) (p + σ.1 0 27) (zeqE (b := σ.1 0 10) ((zsF_ne (by omega)).trans (zsF_ne (by omega))) (by omega)) ((zsF_W.trans zsF_W).trans hc) ((zmr_cg (zsF_W.trans zsF_W)).trans hrow) ((zsF_A.trans zsF_A).trans hln) (by omega) (by omega) (by rw [es]; omega) (by rw [es]; omega) (by rw [ew]; omega) (by rw [ew]; omega) (by rw [ew]; omega) el (fun σ2 q1 q2 => ?_)
          rw [ew, en] at q1 q2 ⊢
          rw [es] at q1
          have q3 := h σ2 (by rw [hle, zwr]; exact q1.trans (eqM_wr _ _ _ _ (by rw [if_neg (by omega)]; exact eqM.jF (by unfold zJ; omega) (eqM.jF (by unfold zJ; omega) eqM.rfl')))) (by rw [hle]; exact q2.trans (congrArg zdl (by simp only [List.length_cons]; omega)))
          rw [hle] at q3
          simp only [List.length_cons] at q3
          rw [show n + 1 + (((zlets cats row len m (zsee cats row len (len).toNat (zst row len (p + σ.1 0 27)) ((p + σ.1 0 27) + 1)).2).1.length + 1 : Nat) : Int) = n + 1 + 1 + ((zlets cats row len m (zsee cats row len (len).toNat (zst row len (p + σ.1 0 27)) ((p + σ.1 0 27) + 1)).2).1.length : Int) by omega] at q3
          exact q3

def zword (cats row : Int → Int) (len p : Int) : List Int × Int × Int :=
  if 0 ≤ zst row len p then (if cats (zsee cats row len len.toNat (zst row len p) (p + 1)).1 = 11 then ((zlets cats row len (len - p).toNat p).1, (zlets cats row len (len - p).toNat p).2, 2) else ([(zsee cats row len len.toNat (zst row len p) (p + 1)).1], (zsee cats row len len.toNat (zst row len p) (p + 1)).2, if cats (zsee cats row len len.toNat (zst row len p) (p + 1)).1 = 10 then 2 else 1)) else ([], p, 1)
def ztell (σ : zSt) (a c : Int) : zSt := if σ.1 0 24 < 100 then zsF (zrp σ 17 (3 * σ.1 0 24) a (σ.1 0 19) c) 0 24 (σ.1 0 24 + 1) else zsF σ 0 24 (σ.1 0 24 + 1)
def zrw (σ : zSt) (T : Int) (w : List Int × Int × Int) : zSt := zsA (if 40 < (w.1.length : Int) then ztell (zwr 18 σ 0 w.1) 3 0 else zwr 18 σ 0 w.1) 12 T w.2.2
theorem ztell_F {σ : zSt} {a c : Int} {i j : Nat} (h : ¬ (i = 0 ∧ j = 24)) : (ztell σ a c).1 i j = σ.1 i j := by
  unfold ztell; split
  · exact zsF_ne h
  · exact zsF_ne h
theorem ztell_A {σ : zSt} {a c : Int} {i : Nat} (h : i ≠ 17) : (ztell σ a c).2 i = σ.2 i := by
  unfold ztell; split
  · exact (zsA_arr h).trans ((zsA_arr h).trans (zsA_arr h))
  · rfl
theorem eqM.of_eq {a b : zSt} (h : a = b) : eqM a b := h ▸ eqM.rfl'
theorem zsA_comm {σ : zSt} {i k : Nat} {z w x y : Int} (h : i ≠ k) : zsA (zsA σ i z x) k w y = zsA (zsA σ k w y) i z x := by
  refine Prod.ext rfl (funext fun p => funext fun q => ?_)
  show (if p = k ∧ q = w then y else if p = i ∧ q = z then x else σ.2 p q) = (if p = i ∧ q = z then x else if p = k ∧ q = w then y else σ.2 p q)
  by_cases h1 : p = k ∧ q = w
  · rw [if_pos h1, if_neg (fun e => h (e.1.symm.trans h1.1)), if_pos h1]
  · rw [if_neg h1, if_neg h1]
theorem zsA_same {σ : zSt} {i : Nat} {z x y : Int} : zsA (zsA σ i z x) i z y = zsA σ i z y := by
  refine Prod.ext rfl (funext fun p => funext fun q => ?_)
  show (if p = i ∧ q = z then y else if p = i ∧ q = z then x else σ.2 p q) = (if p = i ∧ q = z then y else σ.2 p q)
  by_cases h1 : p = i ∧ q = z
  · rw [if_pos h1, if_pos h1]
  · rw [if_neg h1, if_neg h1, if_neg h1]
theorem zwr_comm {c i : Nat} {z x : Int} (h : i ≠ c) : ∀ (L : List Int) (σ : zSt) (k : Int), zwr c (zsA σ i z x) k L = zsA (zwr c σ k L) i z x
  | [], _, _ => rfl
  | s :: L, σ, k => by
    rw [zwr, zwr]
    by_cases hk : k < 40
    · rw [if_pos hk, if_pos hk, zsA_comm h]; exact zwr_comm h L _ _
    · rw [if_neg hk, if_neg hk]; exact zwr_comm h L _ _
theorem ztell_comm {σ : zSt} {a c z x : Int} {i : Nat} (h : i ≠ 17) : ztell (zsA σ i z x) a c = zsA (ztell σ a c) i z x := by
  unfold ztell
  show (if σ.1 0 24 < 100 then zsF (zrp (zsA σ i z x) 17 (3 * σ.1 0 24) a (σ.1 0 19) c) 0 24 (σ.1 0 24 + 1) else zsF (zsA σ i z x) 0 24 (σ.1 0 24 + 1)) = _
  split
  · show zsF (zrp (zsA σ i z x) 17 (3 * σ.1 0 24) a (σ.1 0 19) c) 0 24 (σ.1 0 24 + 1) = zsF (zsA (zrp σ 17 (3 * σ.1 0 24) a (σ.1 0 19) c) i z x) 0 24 (σ.1 0 24 + 1)
    unfold zrp
    rw [zsA_comm h, zsA_comm h, zsA_comm h]
  · rfl
theorem eqM_tell {a b : zSt} {x y : Int} (h : eqM a b) : eqM (ztell a x y) (ztell b x y) := by
  have h1 : a.1 0 24 = b.1 0 24 := h.1 0 24 (by unfold zJ; omega)
  have h2 : a.1 0 19 = b.1 0 19 := h.1 0 19 (by unfold zJ; omega)
  unfold ztell
  rw [h1, h2]
  split
  · exact ((h.A.A.A)).F
  · exact h.F
theorem M_X7_tellZ {G : zG} {σ : zSt} {Post : Option Value → zSt → Prop} (a c : Int) (ha : zR a) (hc : zR c) (hs0 : 0 ≤ σ.1 0 24) (hs : σ.1 0 24 < 2147483647) (h : Post none (ztell σ a c)) : zV G shM mX7_tell 0 (zini 3 [.ref (zad G 0), .int (zI a), .int (zI c)]) [] σ Post :=
  M_X7_tell a c ha hc hs0 hs (fun q => by unfold ztell at h; rw [if_pos q] at h; exact h) (fun q => by unfold ztell at h; rw [if_neg (Int.not_lt.mpr q)] at h; exact h)

set_option maxRecDepth 100000 in
theorem M_X7_readWord {G : zG} {σ : zSt} {Post : Option Value → zSt → Prop} (T : Int) (hT0 : 0 ≤ T) (hT6 : T < 6) (hT : σ.1 0 10 = T + 1) (cats row : Int → Int) (len fr : Int) (hc : σ.2 1 = cats) (hrow : zmr (σ.2 9) T = row) (hln : σ.2 10 T = len) (hl : len ≤ 121) (hrow0 : ∀ q, 0 ≤ row q ∧ row q ≤ 255) (hf0 : 0 ≤ fr) (hf : fr ≤ len) (hs0 : 0 ≤ σ.1 0 24) (hs : σ.1 0 24 < 2147483647) (h : ∀ σ2, eqM σ2 (zrw σ T (zword cats row len fr)) → σ2.1 0 29 = zdl ((zword cats row len fr).1.length : Int) → Post (some (.int (zI (zword cats row len fr).2.1))) σ2) : zV G shM mX7_readWord 0 (zini 6 [.ref (zad G 0), .int (zI fr)]) [] σ Post := by
  refine z_rg (fun hR => ?_)
  refine z_lv (lv' := [some (.ref (zad G 0)), some (.int (zI fr)), none, none, none, none]) rfl ?_
  have hst := zst_neg (row := row) (len := len) (p := fr) hrow0 hf0
  have hst2 := zst_pos (row := row) (len := len) (p := fr)
  refine z_aload_0 dX7_readWord_0 ?_
  refine z_getI (j := 10) dX7_readWord_1 zf_X7_90 rfl rfl ?_
  have w1 : zR (σ.1 0 10) := hR.1 0 10
  refine z_iconst 1 dX7_readWord_4 rfl ?_
  refine z_isub dX7_readWord_5 ?_
  refine z_top (b := T) (by omega) ?_
  refine z_istore_2 dX7_readWord_6 (Nat.le_of_ble_eq_true rfl) rfl ?_
  refine z_iload_1 dX7_readWord_7 ?_
  refine z_istore_3 dX7_readWord_8 (Nat.le_of_ble_eq_true rfl) rfl ?_
  refine z_iconst 0 dX7_readWord_9 rfl ?_
  refine z_istore_4 dX7_readWord_10 (Nat.le_of_ble_eq_true rfl) rfl ?_
  refine z_aload_0 dX7_readWord_12 ?_
  refine z_iconst 0 dX7_readWord_13 rfl ?_
  refine z_putI (j := 29) dX7_readWord_14 zp_X7_122 rfl rfl ⟨by decide, by decide⟩ ?_
  refine z_aload_0 dX7_readWord_17 ?_
  refine z_getR (j := 16) dX7_readWord_18 zf_X7_48 rfl rfl ?_
  refine z_iload_2 dX7_readWord_21 ?_
  refine z_iconst 1 dX7_readWord_22 rfl ?_
  refine z_iast dX7_readWord_23 rfl (by decide) (by omega) (by omega) ⟨by decide, by decide⟩ ?_
  refine z_aload_0 dX7_readWord_24 ?_
  refine z_iload_3 dX7_readWord_25 ?_
  refine z_callV mX7_standing [.int (zI fr)] dX7_readWord_26 zk_X7_standing zl_X7_100 ⟨Nat.le_of_ble_eq_true rfl, Nat.le_of_ble_eq_true rfl⟩ rfl rfl (Nat.le_of_ble_eq_true rfl) (Nat.le_of_ble_eq_true rfl) ?_
  refine N_X7_standing T hT0 hT6 (zeqE (b := σ.1 0 10) (zsA_F.trans (zsF_ne (by omega))) (by omega)) row len fr ((zmr_cg ((zsA_arr (by omega)).trans zsF_W)).trans hrow) (((zsA_ne1 (by omega)).trans zsF_A).trans hln) (by omega) (by omega) (by omega) ?_
  refine z_b1 ?_
  have w2 := zst_R2 hrow0 len fr
  refine z_if_ge (tgt := 34) dX7_readWord_29 (by decide) (by omega) (fun c29 => ?_) (fun c29 => ?_)
  · refine z_aload_0 dX7_readWord_34 ?_
    refine z_iload_3 dX7_readWord_35 ?_
    refine z_callV mX7_see [.int (zI fr)] dX7_readWord_36 zk_X7_see zl_X7_125 ⟨Nat.le_of_ble_eq_true rfl, Nat.le_of_ble_eq_true rfl⟩ rfl rfl (Nat.le_of_ble_eq_true rfl) (Nat.le_of_ble_eq_true rfl) ?_
    refine N_X7_see T hT0 hT6 (zeqE (b := σ.1 0 10) (zsA_F.trans (zsF_ne (by omega))) (by omega)) cats row len fr (((zsA_arr (by omega)).trans zsF_W).trans hc) ((zmr_cg ((zsA_arr (by omega)).trans zsF_W)).trans hrow) (((zsA_ne1 (by omega)).trans zsF_A).trans hln) (by omega) (by omega) (by omega) hrow0 ?_
    refine z_b0 ?_
    have w3 := zsee_rg (cats := cats) (row := row) (len := len) hrow0 (len).toNat (zst row len fr) (fr + 1) (by omega) (by omega) (by omega) (by omega)
    refine z_aload_0 dX7_readWord_39 ?_
    refine z_getR (j := 1) dX7_readWord_40 zf_X7_7 rfl rfl ?_
    refine z_aload_0 dX7_readWord_43 ?_
    refine z_getI (j := 26) dX7_readWord_44 zf_X7_104 rfl rfl ?_
    refine z_top (b := (zsee cats row len (len).toNat (zst row len fr) (fr + 1)).1) ((zsF_ne (by omega)).trans zsF_eq) ?_
    refine z_iald dX7_readWord_47 rfl (by decide) (by omega) (by omega) ?_
    refine z_top (b := σ.2 1 ((zsee cats row len (len).toNat (zst row len fr) (fr + 1)).1)) (zsF_A.trans (zsF_A.trans ((zsA_ne1 (by omega)).trans zsF_A))) ?_
    have w4 : zR (σ.2 1 ((zsee cats row len (len).toNat (zst row len fr) (fr + 1)).1)) := hR.2 1 ((zsee cats row len (len).toNat (zst row len fr) (fr + 1)).1)
    refine z_bipush 11 dX7_readWord_48 (by decide +kernel) ?_
    refine z_icmp_eq (tgt := 90) dX7_readWord_50 (by decide) (by omega) ⟨by decide, by decide⟩ (fun c50 => ?_) (fun c50 => ?_)
    · refine z_iconst 1 dX7_readWord_90 rfl ?_
      refine z_istore_5 dX7_readWord_91 (Nat.le_of_ble_eq_true rfl) rfl ?_
      rw [hc] at c50
      have hle := zlets_le (cats := cats) (row := row) (len := len) (p := fr) (m := (len - fr).toNat - 1) (by omega) c50
      rw [show (len - fr).toNat - 1 + 1 = (len - fr).toNat by omega] at hle
      have e : zword cats row len fr = ((zlets cats row len (len - fr).toNat fr).1, (zlets cats row len (len - fr).toNat fr).2, 2) := (if_pos (by omega)).trans (if_pos c50)
      have ew : (zsF (zsF (zsA (zsF σ 0 29 0) 12 T 1) 0 26 ((zsee cats row len (len).toNat (zst row len fr) (fr + 1)).1)) 0 27 ((zsee cats row len (len).toNat (zst row len fr) (fr + 1)).2 - fr)).1 0 27 = (zsee cats row len (len).toNat (zst row len fr) (fr + 1)).2 - fr := zsF_eq
      have es : (zsF (zsF (zsA (zsF σ 0 29 0) 12 T 1) 0 26 ((zsee cats row len (len).toNat (zst row len fr) (fr + 1)).1)) 0 27 ((zsee cats row len (len).toNat (zst row len fr) (fr + 1)).2 - fr)).1 0 26 = (zsee cats row len (len).toNat (zst row len fr) (fr + 1)).1 := (zsF_ne (by omega)).trans zsF_eq
      have en : fr + ((zsee cats row len (len).toNat (zst row len fr) (fr + 1)).2 - fr) = (zsee cats row len (len).toNat (zst row len fr) (fr + 1)).2 := by omega
      refine z_rg (fun hR9 => ?_)
      refine L_X7_letters (σ := σ) T hT0 hT6 cats row len fr hl hrow0 ((len - fr).toNat - 1) (zsF (zsF (zsA (zsF σ 0 29 0) 12 T 1) 0 26 ((zsee cats row len (len).toNat (zst row len fr) (fr + 1)).1)) 0 27 ((zsee cats row len (len).toNat (zst row len fr) (fr + 1)).2 - fr)) hR9 0 fr (zeqE (b := σ.1 0 10) ((zsF_ne (by omega)).trans ((zsF_ne (by omega)).trans (zsA_F.trans (zsF_ne (by omega))))) (by omega)) ((zsF_W.trans (zsF_W.trans ((zsA_arr (by omega)).trans zsF_W))).trans hc) ((zmr_cg (zsF_W.trans (zsF_W.trans ((zsA_arr (by omega)).trans zsF_W)))).trans hrow) ((zsF_A.trans (zsF_A.trans ((zsA_ne1 (by omega)).trans zsF_A))).trans hln) (by omega) (by omega) (by rw [es]; omega) (by rw [es]; omega) (by rw [ew]; omega) (by rw [ew]; omega) (by rw [ew]; omega) ((zsF_ne (by omega)).trans ((zsF_ne (by omega)).trans (zsA_F.trans zsF_eq))) (fun σ2 q1 q2 => ?_)
      rw [ew, en] at q1 q2 ⊢
      rw [es] at q1
      rw [e] at h
      have hWL : (zsee cats row len (len).toNat (zst row len fr) (fr + 1)).1 :: (zlets cats row len ((len - fr).toNat - 1) (zsee cats row len (len).toNat (zst row len fr) (fr + 1)).2).1 = (zlets cats row len (len - fr).toNat fr).1 := by rw [hle]
      have hWE : (zlets cats row len ((len - fr).toNat - 1) (zsee cats row len (len).toNat (zst row len fr) (fr + 1)).2).2 = (zlets cats row len (len - fr).toNat fr).2 := by rw [hle]
      have hWN : 0 + 1 + ((zlets cats row len ((len - fr).toNat - 1) (zsee cats row len (len).toNat (zst row len fr) (fr + 1)).2).1.length : Int) = ((zlets cats row len (len - fr).toNat fr).1.length : Int) := by rw [← hWL]; simp only [List.length_cons]; omega
      have hlb := zlets_len (cats := cats) (row := row) (len := len) (len - fr).toNat fr
      rw [hWL] at q1
      rw [hWN] at q2 ⊢
      rw [hWE]
      generalize (zlets cats row len (len - fr).toNat fr).1 = WL at *
      generalize (zlets cats row len (len - fr).toNat fr).2 = pe at *
      obtain ⟨ne, hne⟩ : ∃ ne : Int, ne = (WL.length : Int) := ⟨_, rfl⟩
      dsimp only at h
      rw [← hne] at q2 h ⊢
      have q1' : eqM σ2 (zsA (zwr 18 σ 0 WL) 12 T 1) := q1.trans ((eqM_wr WL _ (zsA σ 12 T 1) 0 (eqM.jF (by unfold zJ; omega) (eqM.jF (by unfold zJ; omega) (eqM.A (eqM.jF (by unfold zJ; omega) eqM.rfl'))))).trans (eqM.of_eq (zwr_comm (by decide) WL σ 0)))
      have t1 : σ2.1 0 24 = σ.1 0 24 := (q1'.1 0 24 (by unfold zJ; omega)).trans (congrFun (congrFun (zwr_F WL σ 0) 0) 24)
      refine z_rg (fun hR2 => ?_)
      refine z_iload_4 dX7_readWord_163 ?_
      refine z_bipush 40 dX7_readWord_165 (by decide +kernel) ?_
      refine z_icmp_le (tgt := 176) dX7_readWord_167 (by decide) (by omega) ⟨by decide, by decide⟩ (fun c167 => ?_) (fun c167 => ?_)
      · refine z_aload_0 dX7_readWord_176 ?_
        refine z_getR (j := 16) dX7_readWord_177 zf_X7_48 rfl rfl ?_
        refine z_iload_2 dX7_readWord_180 ?_
        refine z_iconst 2 dX7_readWord_181 rfl ?_
        refine z_iast dX7_readWord_182 rfl (by decide) (by omega) (by omega) ⟨by decide, by decide⟩ ?_
        refine z_iload_3 dX7_readWord_183 ?_
        refine z_iret dX7_readWord_184 rfl ?_
        refine h _ ?_ q2
        unfold zrw
        dsimp only
        rw [if_neg (by omega)]
        refine eqM.trans (b := zsA (zsA (zwr 18 σ 0 WL) 12 T 1) 12 T 2) (eqM.A ?_) (eqM.of_eq zsA_same)
        exact q1'
      · refine z_aload_0 dX7_readWord_170 ?_
        refine z_iconst 3 dX7_readWord_171 rfl ?_
        refine z_iconst 0 dX7_readWord_172 rfl ?_
        refine z_callV mX7_tell [.int (zI 3), .int (zI 0)] dX7_readWord_173 zk_X7_tell zl_X7_132 ⟨Nat.le_of_ble_eq_true rfl, Nat.le_of_ble_eq_true rfl⟩ rfl rfl (Nat.le_of_ble_eq_true rfl) (Nat.le_of_ble_eq_true rfl) ?_
        refine M_X7_tellZ 3 0 (by omega) (by omega) (by omega) (by omega) ?_
        refine z_b0 ?_
        refine z_aload_0 dX7_readWord_176 ?_
        refine z_getR (j := 16) dX7_readWord_177 zf_X7_48 rfl rfl ?_
        refine z_iload_2 dX7_readWord_180 ?_
        refine z_iconst 2 dX7_readWord_181 rfl ?_
        refine z_iast dX7_readWord_182 rfl (by decide) (by omega) (by omega) ⟨by decide, by decide⟩ ?_
        refine z_iload_3 dX7_readWord_183 ?_
        refine z_iret dX7_readWord_184 rfl ?_
        refine h _ ?_ ((ztell_F (by omega)).trans q2)
        unfold zrw
        dsimp only
        rw [if_pos (by omega)]
        refine eqM.trans (b := zsA (zsA (ztell (zwr 18 σ 0 WL) 3 0) 12 T 1) 12 T 2) (eqM.A ?_) (eqM.of_eq zsA_same)
        rw [← ztell_comm (by decide)]
        exact eqM_tell q1'
    · refine z_aload_0 dX7_readWord_53 ?_
      refine z_iconst 0 dX7_readWord_54 rfl ?_
      refine z_callV mX7_addToWord [.int (zI 0)] dX7_readWord_55 zk_X7_addToWord zl_X7_129 ⟨Nat.le_of_ble_eq_true rfl, Nat.le_of_ble_eq_true rfl⟩ rfl rfl (Nat.le_of_ble_eq_true rfl) (Nat.le_of_ble_eq_true rfl) ?_
      refine N_X7_addToWord 0 ((zsee cats row len (len).toNat (zst row len fr) (fr + 1)).1) ((zsF_ne (by omega)).trans zsF_eq) (by omega) (by omega) (fun i1 => ?_) (fun i1 => by exfalso; omega)
      refine z_b0 ?_
      refine z_aload_0 dX7_readWord_58 ?_
      refine z_getR (j := 16) dX7_readWord_59 zf_X7_48 rfl rfl ?_
      refine z_iload_2 dX7_readWord_62 ?_
      refine z_aload_0 dX7_readWord_63 ?_
      refine z_getR (j := 1) dX7_readWord_64 zf_X7_7 rfl rfl ?_
      refine z_aload_0 dX7_readWord_67 ?_
      refine z_getI (j := 26) dX7_readWord_68 zf_X7_104 rfl rfl ?_
      refine z_top (b := (zsee cats row len (len).toNat (zst row len fr) (fr + 1)).1) ((zsF_ne (by omega)).trans (zsA_F.trans ((zsF_ne (by omega)).trans zsF_eq))) ?_
      refine z_iald dX7_readWord_71 rfl (by decide) (by omega) (by omega) ?_
      refine z_top (b := σ.2 1 ((zsee cats row len (len).toNat (zst row len fr) (fr + 1)).1)) (zsF_A.trans ((zsA_ne1 (by omega)).trans (zsF_A.trans (zsF_A.trans ((zsA_ne1 (by omega)).trans zsF_A))))) ?_
      have w5 : zR (σ.2 1 ((zsee cats row len (len).toNat (zst row len fr) (fr + 1)).1)) := hR.2 1 ((zsee cats row len (len).toNat (zst row len fr) (fr + 1)).1)
      refine z_bipush 10 dX7_readWord_72 (by decide +kernel) ?_
      refine z_icmp_ne (tgt := 81) dX7_readWord_74 (by decide) (by omega) ⟨by decide, by decide⟩ (fun c74 => ?_) (fun c74 => ?_)
      · refine z_iconst 1 dX7_readWord_81 rfl ?_
        refine z_iast dX7_readWord_82 rfl (by decide) (by omega) (by omega) ⟨by decide, by decide⟩ ?_
        refine z_iload_3 dX7_readWord_83 ?_
        refine z_aload_0 dX7_readWord_84 ?_
        refine z_getI (j := 27) dX7_readWord_85 zf_X7_107 rfl rfl ?_
        refine z_top (b := ((zsee cats row len (len).toNat (zst row len fr) (fr + 1)).2 - fr)) (zsA_F.trans ((zsF_ne (by omega)).trans (zsA_F.trans zsF_eq))) ?_
        refine z_iadd dX7_readWord_88 ?_
        refine z_iret dX7_readWord_89 rfl ?_
        rw [hc] at c50 c74
        have e : zword cats row len fr = ([(zsee cats row len (len).toNat (zst row len fr) (fr + 1)).1], (zsee cats row len (len).toNat (zst row len fr) (fr + 1)).2, 1) := (if_pos (by omega)).trans ((if_neg c50).trans (by rw [if_neg c74]))
        rw [e] at h
        refine zPe (h _ ?_ ((zsA_F.trans zsF_eq).trans (by unfold zdl; simp))) (by dsimp only; omega)
        refine eqM.trans (b := zsA (zsA (zsA σ 12 T 1) 18 0 (zsee cats row len (len).toNat (zst row len fr) (fr + 1)).1) 12 T 1) (eqM.A (eqM.jF (by unfold zJ; omega) (eqM.A (eqM.jF (by unfold zJ; omega) (eqM.jF (by unfold zJ; omega) (eqM.A (eqM.jF (by unfold zJ; omega) eqM.rfl'))))))) (eqM.of_eq ?_)
        rw [zsA_ov (by decide)]
        rfl
      · refine z_iconst 2 dX7_readWord_77 rfl ?_
        refine z_goto (tgt := 82) dX7_readWord_78 (by decide) ?_
        refine z_iast dX7_readWord_82 rfl (by decide) (by omega) (by omega) ⟨by decide, by decide⟩ ?_
        refine z_iload_3 dX7_readWord_83 ?_
        refine z_aload_0 dX7_readWord_84 ?_
        refine z_getI (j := 27) dX7_readWord_85 zf_X7_107 rfl rfl ?_
        refine z_top (b := ((zsee cats row len (len).toNat (zst row len fr) (fr + 1)).2 - fr)) (zsA_F.trans ((zsF_ne (by omega)).trans (zsA_F.trans zsF_eq))) ?_
        refine z_iadd dX7_readWord_88 ?_
        refine z_iret dX7_readWord_89 rfl ?_
        rw [hc] at c50 c74
        have e : zword cats row len fr = ([(zsee cats row len (len).toNat (zst row len fr) (fr + 1)).1], (zsee cats row len (len).toNat (zst row len fr) (fr + 1)).2, 2) := (if_pos (by omega)).trans ((if_neg c50).trans (by rw [if_pos c74]))
        rw [e] at h
        refine zPe (h _ ?_ ((zsA_F.trans zsF_eq).trans (by unfold zdl; simp))) (by dsimp only; omega)
        refine eqM.trans (b := zsA (zsA (zsA σ 12 T 1) 18 0 (zsee cats row len (len).toNat (zst row len fr) (fr + 1)).1) 12 T 2) (eqM.A (eqM.jF (by unfold zJ; omega) (eqM.A (eqM.jF (by unfold zJ; omega) (eqM.jF (by unfold zJ; omega) (eqM.A (eqM.jF (by unfold zJ; omega) eqM.rfl'))))))) (eqM.of_eq ?_)
        rw [zsA_ov (by decide)]
        rfl
  · refine z_iload_3 dX7_readWord_32 ?_
    refine z_iret dX7_readWord_33 rfl ?_
    have e : zword cats row len fr = ([], fr, 1) := if_neg (by omega)
    rw [e] at h
    exact h _ (eqM.A (eqM.jF (by unfold zJ; omega) eqM.rfl')) ((zsA_F.trans zsF_eq).trans (by unfold zdl; simp))

theorem zwr_at {c : Nat} : ∀ (L : List Int) (σ : zSt) (j : Int), 0 ≤ j → ∀ k : Nat, j + k < 40 → k < L.length → (zwr c σ j L).2 c (j + k) = L.getD k 0
  | [], _, _, _, k, _, h => by simp at h
  | s :: L, σ, j, hj, k, h0, h1 => by
    rw [zwr]
    have hj4 : j < 40 := by omega
    rw [if_pos hj4]
    cases k with
    | zero =>
      have e : ∀ (L : List Int) (σ : zSt) (i : Int), j < i → (zwr c σ i L).2 c j = σ.2 c j := by
        intro L
        induction L with
        | nil => intro σ i _; rfl
        | cons s L ih =>
          intro σ i hi
          rw [zwr, ih _ _ (by omega)]
          split
          · exact zsA_ne1 (by omega)
          · rfl
      show (zwr c (zsA σ c j s) (j + 1) L).2 c (j + ((0 : Nat) : Int)) = s
      rw [show j + ((0 : Nat) : Int) = j by omega, e L _ (j + 1) (by omega)]
      exact zsA_eq
    | succ k =>
      have := zwr_at (c := c) L (zsA σ c j s) (j + 1) (by omega) k (by omega) (by simpa using h1)
      rw [show j + ((k + 1 : Nat) : Int) = j + 1 + (k : Int) by omega, this]
      rfl
/-- the word's part of the reference's state, told if it is long -/
def zwY (m : zSt) (w : List Int) : zSt := if 40 < (w.length : Int) then ztell (zwr 18 m 0 w) 3 0 else zwr 18 m 0 w
theorem zrw_Y {m : zSt} {T x : Int} {w : List Int × Int × Int} : zsA (zrw (zsA m 11 T x) T w) 11 T w.2.1 = zsA (zsA (zwY m w.1) 11 T w.2.1) 12 T w.2.2 := by
  unfold zrw zwY
  split
  · rw [zwr_comm (by decide), ztell_comm (by decide), zsA_comm (by decide), zsA_same]
  · rw [zwr_comm (by decide), zsA_comm (by decide), zsA_same]
theorem zwY_18 {m : zSt} {w : List Int} {k : Nat} (h0 : k < 40) (h1 : k < w.length) : (zwY m w).2 18 (k : Int) = w.getD k 0 := by
  have := zwr_at (c := 18) w m 0 (by omega) k (by omega) h1
  rw [Int.zero_add] at this
  unfold zwY
  split
  · rw [ztell_A (by omega)]; exact this
  · exact this
/-- class and reference look for the same name -/
theorem zisD_W {c s : zSt} {D : List Int} {a : Int} (h : zRel c s) (hd : zdr c D) (hw : ∀ k : Nat, k < 40 → k < D.length → s.2 18 (k : Int) = D.getD k 0) (hnl : ∀ q, 0 ≤ s.2 16 q ∧ s.2 16 q ≤ 40) (ha0 : 0 ≤ a) (ha : a < s.1 0 21) : zisD c a ↔ zisW s (zdl (D.length : Int)) a := by
  have hf := h.1
  have hx := h.2.1
  unfold zRf at hf
  unfold zRa at hx
  have hdl := zdl_R (d := (D.length : Int)) (by omega)
  have hcd : ∀ k : Int, 0 ≤ k → k < zdl (D.length : Int) → c.2 15 k = s.2 18 k := fun k q0 q1 => by
    have a1 := hd.2 k.toNat (by omega) (by omega)
    have a2 := hw k.toNat (by omega) (by omega)
    rw [show ((k.toNat : Nat) : Int) = k by omega] at a1 a2
    rw [a1, a2]
  unfold zisD zisW
  rw [hd.1, hx.2.2.2.2.2.2.2.1, hx.2.2.2.2.2.2.1, hf.2.2.1]
  have hn := hnl a
  refine ⟨fun ⟨q1, q2⟩ => ⟨q1, fun k k0 k1 => ?_⟩, fun ⟨q1, q2⟩ => ⟨q1, fun k k0 k1 => ?_⟩⟩
  · have := q2 k k0 (by omega)
    rw [zns, if_pos ⟨ha0, ha, k0, by omega⟩, hcd k k0 k1] at this
    rw [show 40 * a + k = a * 40 + k by omega]; exact this
  · rw [zns, if_pos ⟨ha0, ha, k0, k1⟩, hcd k k0 (by omega), ← q2 k k0 (by omega), show 40 * a + k = a * 40 + k by omega]
theorem zRel.name {c s : zSt} {D : List Int} (h : zRel c s) (hd : zdr c D) (hw : ∀ k : Nat, k < 40 → k < D.length → s.2 18 (k : Int) = D.getD k 0) : zRel (zsF (zsA (zsC c 15 0 13 (c.1 5 3 * 40) (zdl (c.1 5 4))) 14 (c.1 5 3) (zdl (c.1 5 4))) 5 3 (c.1 5 3 + 1)) (zsF (zsA (zsB s 15 (40 * s.1 0 21) (zdl (D.length : Int)) (s.2 18)) 16 (s.1 0 21) (zdl (D.length : Int))) 0 21 (s.1 0 21 + 1)) := by
  have hdl := zdl_R (d := (D.length : Int)) (by omega)
  have hcd : ∀ k : Int, 0 ≤ k → k < zdl (D.length : Int) → c.2 15 k = s.2 18 k := fun k q0 q1 => by
    have a1 := hd.2 k.toNat (by omega) (by omega)
    have a2 := hw k.toNat (by omega) (by omega)
    rw [show ((k.toNat : Nat) : Int) = k by omega] at a1 a2
    rw [a1, a2]
  obtain ⟨⟨f1, f2, f3, f4, f5, f6, f7, f8⟩, ⟨a1, a2, a3, a4, a5, a6, a7, a8, a9, a10⟩, hl⟩ := h
  rw [hd.1, f3]
  generalize zdl (D.length : Int) = wl at hdl hcd ⊢
  have cA : ∀ i, i ≠ 13 → i ≠ 14 → (zsF (zsA (zsC c 15 0 13 (s.1 0 21 * 40) wl) 14 (s.1 0 21) wl) 5 3 (s.1 0 21 + 1)).2 i = c.2 i := fun i q q2 => (zsA_arr q2).trans (zsC_arr q)
  have sA : ∀ i, i ≠ 15 → i ≠ 16 → (zsF (zsA (zsB s 15 (40 * s.1 0 21) wl (s.2 18)) 16 (s.1 0 21) wl) 0 21 (s.1 0 21 + 1)).2 i = s.2 i := fun i q q2 => (zsA_arr q2).trans (zsB_arr q)
  have cF : ∀ i j, ¬ (i = 5 ∧ j = 3) → (zsF (zsA (zsC c 15 0 13 (s.1 0 21 * 40) wl) 14 (s.1 0 21) wl) 5 3 (s.1 0 21 + 1)).1 i j = c.1 i j := fun i j q => zsF_ne q
  have sF : ∀ i j, ¬ (i = 0 ∧ j = 21) → (zsF (zsA (zsB s 15 (40 * s.1 0 21) wl (s.2 18)) 16 (s.1 0 21) wl) 0 21 (s.1 0 21 + 1)).1 i j = s.1 i j := fun i j q => zsF_ne q
  refine ⟨⟨?_, ?_, zsF_eq.trans zsF_eq.symm, ?_, ?_, ?_, ?_, ?_⟩, ⟨?_, ?_, ?_, ?_, ?_, ?_, ?_, ?_, ?_, ?_⟩, fun t q => ?_⟩
  · rw [cF _ _ (by omega), sF _ _ (by omega)]; exact f1
  · rw [cF _ _ (by omega), sF _ _ (by omega)]; exact f2
  · rw [cF _ _ (by omega), sF _ _ (by omega)]; exact f4
  · rw [cF _ _ (by omega), sF _ _ (by omega)]; exact f5
  · rw [cF _ _ (by omega), sF _ _ (by omega)]; exact f6
  · rw [cF _ _ (by omega), sF _ _ (by omega)]; exact f7
  · rw [cF _ _ (by omega), sF _ _ (by omega)]; exact f8
  · rw [cA _ (by omega) (by omega), sA _ (by omega) (by omega)]; exact a1
  · rw [cA _ (by omega) (by omega), sA _ (by omega) (by omega)]; exact a2
  · rw [cA _ (by omega) (by omega), sA _ (by omega) (by omega)]; exact a3
  · rw [cA _ (by omega) (by omega), sA _ (by omega) (by omega)]; exact a4
  · rw [cA _ (by omega) (by omega), sA _ (by omega) (by omega)]; exact a5
  · rw [cA _ (by omega) (by omega), sA _ (by omega) (by omega)]; exact a6
  · show (zsA (zsC c 15 0 13 (s.1 0 21 * 40) wl) 14 (s.1 0 21) wl).2 13 = (zsA (zsB s 15 (40 * s.1 0 21) wl (s.2 18)) 16 (s.1 0 21) wl).2 15
    rw [zsA_arr (by omega), zsA_arr (by omega)]
    funext z
    show (if 13 = 13 ∧ s.1 0 21 * 40 ≤ z ∧ z < s.1 0 21 * 40 + wl then c.2 15 (0 + (z - s.1 0 21 * 40)) else c.2 13 z) = if 15 = 15 ∧ 40 * s.1 0 21 ≤ z ∧ z < 40 * s.1 0 21 + wl then s.2 18 (z - 40 * s.1 0 21) else s.2 15 z
    by_cases hz : s.1 0 21 * 40 ≤ z ∧ z < s.1 0 21 * 40 + wl
    · rw [if_pos ⟨rfl, hz⟩, if_pos ⟨rfl, by omega, by omega⟩, hcd _ (by omega) (by omega), show 0 + (z - s.1 0 21 * 40) = z - 40 * s.1 0 21 by omega]
    · rw [if_neg (fun e => hz e.2), if_neg (fun e => hz ⟨by omega, by omega⟩), a7]
  · exact zAeq (c := zsC c 15 0 13 (s.1 0 21 * 40) wl) (m := zsB s 15 (40 * s.1 0 21) wl (s.2 18)) (((zsC_arr (by omega)).trans a8).trans (zsB_arr (by omega)).symm)
  · rw [cA _ (by omega) (by omega), sA _ (by omega) (by omega)]; exact a9
  · rw [cA _ (by omega) (by omega), sA _ (by omega) (by omega)]; exact a10
  · rw [sF _ _ (by omega)] at q
    exact zLv_cg (hl t q) (fun _ _ _ => cF _ _ (by omega)) (cA _ (by omega) (by omega)) (fun i hi => congrFun (sA i (by omega) (by omega)) _) (fun _ _ _ => congrFun (sA 9 (by omega) (by omega)) _)
theorem N_X3_number {G : zG} {σ : zSt} {Post : Option Value → zSt → Prop} (s : zSt) (D : List Int) (hrel : zRel σ s) (hd : zdr σ D) (hw : ∀ k : Nat, k < 40 → k < D.length → s.2 18 (k : Int) = D.getD k 0) (hna0 : 0 ≤ s.1 0 21) (hna1 : s.1 0 21 ≤ 150) (hnl : ∀ q, 0 ≤ s.2 16 q ∧ s.2 16 q ≤ 40) (h : ∀ c1, zRel c1 (zname s (zdl (D.length : Int))).2 → Post (some (.int (zI (zname s (zdl (D.length : Int))).1))) c1) : zV G shC mX3_numberOfDraft 0 (zini 2 [.ref (zad G 5)]) [] σ Post := by
  have hf := hrel.1.2.2.1
  have h14 := hrel.2.1.2.2.2.2.2.2.2.1
  have hdw := fun a q0 q1 => zisD_W (a := a) hrel hd hw hnl q0 q1
  refine M_X3_numberOfDraft (by omega) (by omega) (by rw [hd.1]; omega) (by rw [h14]; exact hnl) (fun j q0 q1 q2 q3 => ?_) (fun q0 q1 => ?_) (fun q0 q1 => ?_)
  · rw [hf] at q1
    rw [zname_a q0 q1 ((hdw j q0 q1).mp q2) (fun i i0 i1 e => q3 i i0 i1 ((hdw i i0 (by omega)).mpr e))] at h
    exact h σ hrel
  · have e := zname_c (σ := s) (wl := zdl (D.length : Int)) (fun i i0 i1 e => q0 i i0 (by omega) ((hdw i i0 i1).mpr e)) (by omega)
    rw [e] at h
    exact zPe (h _ (hrel.name hd hw)) hf
  · rw [zname_b (fun i i0 i1 e => q0 i i0 (by omega) ((hdw i i0 i1).mpr e)) (by omega)] at h
    exact h σ hrel

theorem N2_X3_number {G : zG} {σ : zSt} {Post : Option Value → zSt → Prop} (s : zSt) (D : List Int) (n : Int × zSt) (hn : zname s (zdl (D.length : Int)) = n) (hrel : zRel σ s) (hd : zdr σ D) (hw : ∀ k : Nat, k < 40 → k < D.length → s.2 18 (k : Int) = D.getD k 0) (hna0 : 0 ≤ s.1 0 21) (hna1 : s.1 0 21 ≤ 150) (hnl : ∀ q, 0 ≤ s.2 16 q ∧ s.2 16 q ≤ 40) (h : ∀ c1, zRel c1 n.2 → Post (some (.int (zI n.1))) c1) : zV G shC mX3_numberOfDraft 0 (zini 2 [.ref (zad G 5)]) [] σ Post := by
  subst hn
  exact N_X3_number s D hrel hd hw hna0 hna1 hnl h

theorem zwY_F {m : zSt} {w : List Int} {i j : Nat} (h : ¬ (i = 0 ∧ j = 24)) : (zwY m w).1 i j = m.1 i j := by
  unfold zwY; split
  · rw [ztell_F h, zwr_F]
  · rw [zwr_F]
theorem zwY_A {m : zSt} {w : List Int} {i : Nat} (h : i ≠ 17 ∧ i ≠ 18) : (zwY m w).2 i = m.2 i := by
  unfold zwY; split
  · rw [ztell_A h.1, zwr_A h.2]
  · rw [zwr_A h.2]
theorem zwY_18b {m : zSt} {w : List Int} {k : Nat} {T x y : Int} (h0 : k < 40) (h1 : k < w.length) : (zsA (zsA (zwY m w) 11 T x) 12 T y).2 18 (k : Int) = w.getD k 0 := (zsA_ne1 (by omega)).trans ((zsA_ne1 (by omega)).trans (zwY_18 h0 h1))

set_option maxRecDepth 100000 in
theorem L_X6_tail {G : zG} {σ : zSt} {Post : Option Value → zSt → Prop} (μ : zSt) (t : Nat) (ht : t < 6) (hT : μ.1 0 10 = (t : Int) + 1) (w : List Int × Int × Int) (pl ct : Int) (hpl : zR pl) (hrel : zRel σ (zsA (zsA μ 11 t w.2.1) 12 t w.2.2)) (hd : zdr σ w.1) (hto0 : 0 ≤ μ.1 0 19) (hto : μ.1 0 19 < 600) (htl0 : 0 ≤ μ.1 0 24) (htl : μ.1 0 24 ≤ 2000000000) (hna0 : 1 ≤ μ.1 0 21) (hna1 : μ.1 0 21 ≤ 150) (hnl : ∀ q, 0 ≤ μ.2 16 q ∧ μ.2 16 q ≤ 40) (h8 : -1 ≤ μ.2 8 t)
  (h : ∀ c1, zRel c1 (if (zname (zsA (zsA (zwY μ w.1) 11 t w.2.1) 12 t w.2.2) (zdl (w.1.length : Int))).1 < 0 then (-4, (zname (zsA (zsA (zwY μ w.1) 11 t w.2.1) 12 t w.2.2) (zdl (w.1.length : Int))).2) else (μ.1 0 19, zkeep (zname (zsA (zsA (zwY μ w.1) 11 t w.2.1) 12 t w.2.2) (zdl (w.1.length : Int))).2 t 1 (zname (zsA (zsA (zwY μ w.1) 11 t w.2.1) 12 t w.2.2) (zdl (w.1.length : Int))).1 0 pl)).2 → Post (some (.int (zI (if (zname (zsA (zsA (zwY μ w.1) 11 t w.2.1) 12 t w.2.2) (zdl (w.1.length : Int))).1 < 0 then (-4, (zname (zsA (zsA (zwY μ w.1) 11 t w.2.1) 12 t w.2.2) (zdl (w.1.length : Int))).2) else (μ.1 0 19, zkeep (zname (zsA (zsA (zwY μ w.1) 11 t w.2.1) 12 t w.2.2) (zdl (w.1.length : Int))).2 t 1 (zname (zsA (zsA (zwY μ w.1) 11 t w.2.1) 12 t w.2.2) (zdl (w.1.length : Int))).1 0 pl)).1))) c1) : zV G shC mX6_readName 99 [some (.ref (zad G 0)), some (.ref (zad G (18 + t))), some (.int (zI pl)), some (.int (zI ct)), none] [] σ Post := by
  refine z_rg (fun hR => ?_)
  have hrf := hrel.1
  unfold zRf at hrf
  obtain ⟨f1, f2, f3, f4, f5, f6, f7, f8⟩ := hrf
  have f4 : σ.1 6 1 = μ.1 0 19 := f4
  have f5 : σ.1 7 1 = μ.1 0 24 := f5
  have hd1 := hd.1
  refine z_aload_0 dX6_readName_99 ?_
  refine z_getR (j := 4) dX6_readName_100 zf_X6_37 rfl rfl ?_
  refine z_callV mX3_draftIsLong [] dX6_readName_103 zk_X3_draftIsLong zl_X6_238 ⟨Nat.le_of_ble_eq_true rfl, Nat.le_of_ble_eq_true rfl⟩ rfl rfl (Nat.le_of_ble_eq_true rfl) (Nat.le_of_ble_eq_true rfl) ?_
  refine M_X3_draftIsLong (fun i1 => ?_) (fun i1 => ?_)
  · refine z_b1 ?_
    refine z_if_eq (tgt := 125) dX6_readName_106 (by decide) ⟨by decide, by decide⟩ (fun c106 => by exfalso; omega) (fun c106 => ?_)
    refine z_aload_0 dX6_readName_109 ?_
    refine z_getR (j := 6) dX6_readName_110 zf_X6_51 rfl rfl ?_
    refine z_iconst 3 dX6_readName_113 rfl ?_
    refine z_aload_0 dX6_readName_114 ?_
    refine z_getR (j := 5) dX6_readName_115 zf_X6_44 rfl rfl ?_
    refine z_getI (j := 1) dX6_readName_118 zf_X6_164 rfl rfl ?_
    have w1 : zR (σ.1 6 1) := hR.1 6 1
    refine z_iconst 0 dX6_readName_121 rfl ?_
    refine z_callV mX4_report [.int (zI 3), .int (zI (σ.1 6 1)), .int (zI 0)] dX6_readName_122 zk_X4_report zl_X6_224 ⟨Nat.le_of_ble_eq_true rfl, Nat.le_of_ble_eq_true rfl⟩ rfl rfl (Nat.le_of_ble_eq_true rfl) (Nat.le_of_ble_eq_true rfl) ?_
    refine M_X4_reportZ 3 (σ.1 6 1) 0 (by omega) (by omega) (by omega) (by omega) (by omega) (by omega) ?_
    refine z_b0 ?_
    refine z_aload_0 dX6_readName_125 ?_
    refine z_getR (j := 4) dX6_readName_126 zf_X6_37 rfl rfl ?_
    refine z_callV mX3_numberOfDraft [] dX6_readName_129 zk_X3_numberOfDraft zl_X6_241 ⟨Nat.le_of_ble_eq_true rfl, Nat.le_of_ble_eq_true rfl⟩ rfl rfl (Nat.le_of_ble_eq_true rfl) (Nat.le_of_ble_eq_true rfl) ?_
    have hY : zRel (zrep σ 3 0) (zsA (zsA (zwY μ w.1) 11 t w.2.1) 12 t w.2.2) := by
      have := hrel.rep (a := 3) (s := 0)
      rw [zwY, if_pos (by omega)]
      have hx := zRel.wr w.1 0 hrel
      rw [zwr_comm (by decide), zwr_comm (by decide)] at hx
      have hy := hx.rep (a := 3) (s := 0)
      rw [ztell_comm (by decide), ztell_comm (by decide)] at hy
      exact hy
    have hdY : zdr (zrep σ 3 0) w.1 := zdr_rep hd
    obtain ⟨n, hn⟩ : ∃ n, (zname (zsA (zsA (zwY μ w.1) 11 t w.2.1) 12 t w.2.2) (zdl (w.1.length : Int))) = n := ⟨_, rfl⟩
    have n10 : n.2.1 0 10 = μ.1 0 10 := by rw [← hn]; exact (zname_F (by omega)).trans (zwY_F (by omega))
    have n19 : n.2.1 0 19 = μ.1 0 19 := by rw [← hn]; exact (zname_F (by omega)).trans (zwY_F (by omega))
    have n8 : n.2.2 8 = μ.2 8 := by rw [← hn]; exact (zname_A (by omega)).trans ((zsA_arr (by omega)).trans ((zsA_arr (by omega)).trans (zwY_A (by omega))))
    have s21 : (zsA (zsA (zwY μ w.1) 11 t w.2.1) 12 t w.2.2).1 0 21 = μ.1 0 21 := zwY_F (by omega)
    have s16 : (zsA (zsA (zwY μ w.1) 11 t w.2.1) 12 t w.2.2).2 16 = μ.2 16 := (zsA_arr (by omega)).trans ((zsA_arr (by omega)).trans (zwY_A (by omega)))
    have nrg := zname_rg (σ := (zsA (zsA (zwY μ w.1) 11 t w.2.1) 12 t w.2.2)) (wl := zdl (w.1.length : Int)) (by rw [s21]; omega)
    rw [hn] at nrg
    rw [hn] at h
    refine N2_X3_number (zsA (zsA (zwY μ w.1) 11 t w.2.1) 12 t w.2.2) w.1 n hn hY hdY (fun k k0 k1 => (zwY_18b k0 k1)) (by rw [s21]; omega) (by rw [s21]; omega) (fun q => by rw [s16]; exact hnl q) (fun c1 hc1 => ?_)
    refine z_b1 ?_
    have hrf1 := hc1.1
    unfold zRf at hrf1
    have hlv1 := (hc1.2.2 t (by omega)).1
    rw [n8] at hlv1
    refine z_rg (fun hR3 => ?_)
    refine z_istore_4 dX6_readName_132 (Nat.le_of_ble_eq_true rfl) rfl ?_
    refine z_iload_4 dX6_readName_134 ?_
    refine z_if_ge (tgt := 144) dX6_readName_136 (by decide) (by omega) (fun c136 => ?_) (fun c136 => ?_)
    · refine z_aload_0 dX6_readName_144 ?_
      refine z_getR (j := 5) dX6_readName_145 zf_X6_44 rfl rfl ?_
      refine z_iconst 1 dX6_readName_148 rfl ?_
      refine z_iload_4 dX6_readName_149 ?_
      refine z_iconst 0 dX6_readName_151 rfl ?_
      refine z_aload_1 dX6_readName_152 ?_
      refine z_iload_2 dX6_readName_153 ?_
      refine z_callV mX5_put [.int (zI 1), .int (zI n.1), .int (zI 0), .ref (zad G (18 + t)), .int (zI pl)] dX6_readName_154 zk_X5_put zl_X6_136 ⟨Nat.le_of_ble_eq_true rfl, Nat.le_of_ble_eq_true rfl⟩ rfl rfl (Nat.le_of_ble_eq_true rfl) (Nat.le_of_ble_eq_true rfl) ?_
      refine M_X5_putZ 1 n.1 0 t pl ht (by omega) (by omega) (by omega) (by omega) (by omega) (by omega) (by omega) ?_
      refine z_b1 ?_
      refine z_iret dX6_readName_157 rfl ?_
      rw [if_neg (by omega)] at h
      exact zPe (h _ (hc1.put (by omega))) (by dsimp only; omega)
    · refine z_bipush (-4) dX6_readName_139 (by decide +kernel) ?_
      refine z_goto (tgt := 157) dX6_readName_141 (by decide) ?_
      refine z_iret dX6_readName_157 rfl ?_
      rw [if_pos (by omega)] at h
      exact h c1 hc1
  · refine z_b1 ?_
    refine z_if_eq (tgt := 125) dX6_readName_106 (by decide) ⟨by decide, by decide⟩ (fun c106 => ?_) (fun c106 => by exfalso; omega)
    refine z_aload_0 dX6_readName_125 ?_
    refine z_getR (j := 4) dX6_readName_126 zf_X6_37 rfl rfl ?_
    refine z_callV mX3_numberOfDraft [] dX6_readName_129 zk_X3_numberOfDraft zl_X6_241 ⟨Nat.le_of_ble_eq_true rfl, Nat.le_of_ble_eq_true rfl⟩ rfl rfl (Nat.le_of_ble_eq_true rfl) (Nat.le_of_ble_eq_true rfl) ?_
    have hY : zRel σ (zsA (zsA (zwY μ w.1) 11 t w.2.1) 12 t w.2.2) := by
      rw [zwY, if_neg (by omega)]
      have hx := zRel.wr w.1 0 hrel
      rw [zwr_comm (by decide), zwr_comm (by decide)] at hx
      exact hx
    have hdY : zdr σ w.1 := hd
    obtain ⟨n, hn⟩ : ∃ n, (zname (zsA (zsA (zwY μ w.1) 11 t w.2.1) 12 t w.2.2) (zdl (w.1.length : Int))) = n := ⟨_, rfl⟩
    have n10 : n.2.1 0 10 = μ.1 0 10 := by rw [← hn]; exact (zname_F (by omega)).trans (zwY_F (by omega))
    have n19 : n.2.1 0 19 = μ.1 0 19 := by rw [← hn]; exact (zname_F (by omega)).trans (zwY_F (by omega))
    have n8 : n.2.2 8 = μ.2 8 := by rw [← hn]; exact (zname_A (by omega)).trans ((zsA_arr (by omega)).trans ((zsA_arr (by omega)).trans (zwY_A (by omega))))
    have s21 : (zsA (zsA (zwY μ w.1) 11 t w.2.1) 12 t w.2.2).1 0 21 = μ.1 0 21 := zwY_F (by omega)
    have s16 : (zsA (zsA (zwY μ w.1) 11 t w.2.1) 12 t w.2.2).2 16 = μ.2 16 := (zsA_arr (by omega)).trans ((zsA_arr (by omega)).trans (zwY_A (by omega)))
    have nrg := zname_rg (σ := (zsA (zsA (zwY μ w.1) 11 t w.2.1) 12 t w.2.2)) (wl := zdl (w.1.length : Int)) (by rw [s21]; omega)
    rw [hn] at nrg
    rw [hn] at h
    refine N2_X3_number (zsA (zsA (zwY μ w.1) 11 t w.2.1) 12 t w.2.2) w.1 n hn hY hdY (fun k k0 k1 => (zwY_18b k0 k1)) (by rw [s21]; omega) (by rw [s21]; omega) (fun q => by rw [s16]; exact hnl q) (fun c1 hc1 => ?_)
    refine z_b1 ?_
    have hrf1 := hc1.1
    unfold zRf at hrf1
    have hlv1 := (hc1.2.2 t (by omega)).1
    rw [n8] at hlv1
    refine z_rg (fun hR3 => ?_)
    refine z_istore_4 dX6_readName_132 (Nat.le_of_ble_eq_true rfl) rfl ?_
    refine z_iload_4 dX6_readName_134 ?_
    refine z_if_ge (tgt := 144) dX6_readName_136 (by decide) (by omega) (fun c136 => ?_) (fun c136 => ?_)
    · refine z_aload_0 dX6_readName_144 ?_
      refine z_getR (j := 5) dX6_readName_145 zf_X6_44 rfl rfl ?_
      refine z_iconst 1 dX6_readName_148 rfl ?_
      refine z_iload_4 dX6_readName_149 ?_
      refine z_iconst 0 dX6_readName_151 rfl ?_
      refine z_aload_1 dX6_readName_152 ?_
      refine z_iload_2 dX6_readName_153 ?_
      refine z_callV mX5_put [.int (zI 1), .int (zI n.1), .int (zI 0), .ref (zad G (18 + t)), .int (zI pl)] dX6_readName_154 zk_X5_put zl_X6_136 ⟨Nat.le_of_ble_eq_true rfl, Nat.le_of_ble_eq_true rfl⟩ rfl rfl (Nat.le_of_ble_eq_true rfl) (Nat.le_of_ble_eq_true rfl) ?_
      refine M_X5_putZ 1 n.1 0 t pl ht (by omega) (by omega) (by omega) (by omega) (by omega) (by omega) (by omega) ?_
      refine z_b1 ?_
      refine z_iret dX6_readName_157 rfl ?_
      rw [if_neg (by omega)] at h
      exact zPe (h _ (hc1.put (by omega))) (by dsimp only; omega)
    · refine z_bipush (-4) dX6_readName_139 (by decide +kernel) ?_
      refine z_goto (tgt := 157) dX6_readName_141 (by decide) ?_
      refine z_iret dX6_readName_157 rfl ?_
      rw [if_pos (by omega)] at h
      exact h c1 hc1

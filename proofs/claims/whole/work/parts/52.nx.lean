def zlvm (σ : zSt) (t : Int) : Int := (if 0 ≤ σ.2 12 t then σ.2 10 t - σ.2 11 t + 1 else 0) + 123 * (σ.2 4 (σ.2 7 t) - 1 - σ.2 8 t)
def zmu (σ : zSt) : Nat → Int
  | 0 => 0
  | t + 1 => zmu σ t + zlvm σ t
theorem zmu_cg {a b : zSt} : ∀ n : Nat, (∀ t : Int, 0 ≤ t → t < n → zlvm a t = zlvm b t) → zmu a n = zmu b n
  | 0, _ => rfl
  | n + 1, h => by rw [zmu, zmu, zmu_cg n (fun t q0 q1 => h t q0 (by omega)), h n (by omega) (by omega)]
theorem zlvm_rg {N : Int} {σ : zSt} (hI : zInv N σ) {t : Int} (h0 : 0 ≤ t) (h1 : t < σ.1 0 10) : 0 ≤ zlvm σ t ∧ zlvm σ t ≤ 3812 := by
  obtain ⟨hgr, hfi, hle, hto, hna, hes, htl, hbg, hca, hsa, hme, hlc, hln, hsg, hrw, hnl, hns, hwd, hlv, hlf, hdi, htk⟩ := hI
  have a := hlv t
  have b := hlf t h0 h1
  have c := hlc (σ.2 7 t)
  unfold zlvm
  split <;> omega
theorem zmu_rg {N : Int} {σ : zSt} (hI : zInv N σ) : ∀ n : Nat, (n : Int) ≤ σ.1 0 10 → 0 ≤ zmu σ n ∧ zmu σ n ≤ 3812 * (n : Int)
  | 0, _ => by rw [zmu]; omega
  | n + 1, h => by
    have a := zmu_rg hI n (by omega)
    have b := zlvm_rg hI (t := (n : Int)) (by omega) (by omega)
    rw [zmu]; omega
theorem zbn_rg {N : Int} {σ : zSt} (hI : zInv N σ) (l : Int) : 0 ≤ zbn σ l ∧ zbn σ l ≤ 120 := by
  obtain ⟨hgr, hfi, hle, hto, hna, hes, htl, hbg, hca, hsa, hme, hlc, hln, hsg, hrw, hnl, hns, hwd, hlv, hlf, hdi, htk⟩ := hI
  have a := ztr_le (fun q => σ.2 6 (120 * l + q)) (σ.2 5 l).toNat
  have b := hln l
  unfold zbn; omega
theorem inv_beg {N : Int} {σ : zSt} (hI : zInv N σ) (T l : Int) : zInv (N + 1) (zbeg σ T l) := by
  have hz := zbn_rg hI l
  have hes := hI.2.2.2.2.2.1
  have hsg := hI.2.2.2.2.2.2.2.2.2.2.2.2.2.1
  unfold zbeg
  split
  · exact inv_bg (inv_A12 (inv_A1011 (inv_rowA (inv_rowB hI (128 * T) (zbn σ l) _ (fun q => hsg _)) (128 * T + zbn σ l) (σ.1 0 5) ⟨by omega, hes.2⟩) T (zbn σ l + 1) (by omega)) T 0 (by omega))
  · exact inv_bg (inv_A12 (inv_A1011 (inv_rowB hI (128 * T) (zbn σ l) _ (fun q => hsg _)) T (zbn σ l) (by omega)) T 0 (by omega))
theorem zbeg_10 {σ : zSt} {T l : Int} : (zbeg σ T l).2 10 T = if 0 ≤ σ.1 0 5 then zbn σ l + 1 else zbn σ l := by
  unfold zbeg; split
  · exact zsF_A.trans ((zsA_ne1 (by omega)).trans ((zsA_ne1 (by omega)).trans zsA_eq))
  · exact zsF_A.trans ((zsA_ne1 (by omega)).trans ((zsA_ne1 (by omega)).trans zsA_eq))
theorem zbeg_11 {σ : zSt} {T l : Int} : (zbeg σ T l).2 11 T = 0 := by
  unfold zbeg; split
  · exact zsF_A.trans ((zsA_ne1 (by omega)).trans zsA_eq)
  · exact zsF_A.trans ((zsA_ne1 (by omega)).trans zsA_eq)
theorem zbeg_ne {σ : zSt} {T l q : Int} {i : Nat} (hi : i ≠ 9) (h : q ≠ T) : (zbeg σ T l).2 i q = σ.2 i q := by
  unfold zbeg; split
  · exact zsF_A.trans ((zsA_ne1 (by omega)).trans ((zsA_ne1 (by omega)).trans ((zsA_ne1 (by omega)).trans ((zsA_ne1 (by omega)).trans (zsB_ne1 (by omega))))))
  · exact zsF_A.trans ((zsA_ne1 (by omega)).trans ((zsA_ne1 (by omega)).trans ((zsA_ne1 (by omega)).trans (zsB_ne1 (by omega)))))
theorem zhl_spec {N : Int} : ∀ (t : Nat) (σ : zSt), zInv N σ → σ.1 0 10 = t → zInv (N + 1) (zhl t σ) ∧ 0 ≤ (zhl t σ).1 0 10 ∧ (zhl t σ).1 0 10 ≤ t ∧ zmu (zhl t σ) ((zhl t σ).1 0 10).toNat ≤ zmu σ t ∧ (0 < (zhl t σ).1 0 10 → 0 ≤ (zhl t σ).2 12 ((zhl t σ).1 0 10 - 1)) ∧ (zhl t σ).1 0 19 = σ.1 0 19
  | 0, σ, hI, e => ⟨inv_c11 hI, by rw [zhl]; omega, by rw [zhl]; omega, by rw [zhl, e]; exact Int.le_refl _, by rw [zhl]; omega, rfl⟩
  | t + 1, σ, hI, e => by
    have et : σ.1 0 10 - 1 = (t : Int) := by omega
    rcases Decidable.em (0 ≤ σ.2 12 (t : Int)) with h | h
    · rw [zhl_at rfl h]
      exact ⟨inv_c11 hI, by omega, by omega, by rw [e]; exact Int.le_refl _, fun _ => by rw [et]; exact h, rfl⟩
    · by_cases h2 : σ.2 13 (t : Int) ≠ 0 ∨ σ.2 4 (σ.2 7 (t : Int)) ≤ σ.2 8 (t : Int) + 1
      · rw [zhl_pop rfl h h2]
        have ih := zhl_spec t (zsF σ 0 10 t) (inv_pop hI t (by omega)) zsF_eq
        obtain ⟨i1, i2, i3, i4, i5, i6⟩ := ih
        refine ⟨i1, i2, by omega, ?_, i5, i6.trans (zsF_ne (by omega))⟩
        have hc : zmu (zsF σ 0 10 t) t = zmu σ t := zmu_cg t (fun _ _ _ => rfl)
        have hm := zlvm_rg hI (t := (t : Int)) (by omega) (by omega)
        rw [hc] at i4
        rw [zmu]; omega
      · rw [zhl_beg rfl h h2]
        have hq : σ.2 8 (t : Int) + 1 < σ.2 4 (σ.2 7 (t : Int)) := by omega
        have hlf := hI.2.2.2.2.2.2.2.2.2.2.2.2.2.2.2.2.2.2.2.1 (t : Int) (by omega) (by omega)
        have hJ := inv_A8 hI (t : Int) hq hlf.2.2.1
        have hB := inv_beg hJ (t : Int) (30 * σ.2 7 (t : Int) + (σ.2 8 (t : Int) + 1))
        have hz := zbn_rg hJ (30 * σ.2 7 (t : Int) + (σ.2 8 (t : Int) + 1))
        have e10 : (zbeg (zsA σ 8 t (σ.2 8 t + 1)) t (30 * σ.2 7 t + (σ.2 8 t + 1))).1 0 10 = (t : Int) + 1 := (zbeg_F (by omega)).trans (e.trans (by omega))
        refine ⟨hB, by omega, by omega, ?_, fun _ => ?_, zbeg_F (by omega)⟩
        · rw [e10, show ((t : Int) + 1).toNat = t + 1 by omega, zmu, zmu]
          have c1 : zmu (zbeg (zsA σ 8 t (σ.2 8 t + 1)) t (30 * σ.2 7 t + (σ.2 8 t + 1))) t = zmu σ t := zmu_cg t (fun q q0 q1 => by
            unfold zlvm
            have n8 : (zsA σ 8 (t : Int) (σ.2 8 t + 1)).2 8 q = σ.2 8 q := zsA_ne1 (by omega)
            rw [zbeg_ne (by decide) (by omega), zbeg_ne (by decide) (by omega), zbeg_ne (by decide) (by omega), zbeg_A (by omega), zbeg_A (by omega), zbeg_A (by omega), n8]
            rfl)
          have c2 : zlvm (zbeg (zsA σ 8 t (σ.2 8 t + 1)) t (30 * σ.2 7 t + (σ.2 8 t + 1))) t ≤ zlvm σ t := by
            unfold zlvm
            have n8 : (zsA σ 8 (t : Int) (σ.2 8 t + 1)).2 8 t = σ.2 8 t + 1 := zsA_eq
            rw [zbeg_12, zbeg_11, zbeg_10, zbeg_A (by omega), zbeg_A (by omega), zbeg_A (by omega), n8, if_neg h, if_pos (Int.le_refl 0)]
            show (if 0 ≤ σ.1 0 5 then zbn (zsA σ 8 t (σ.2 8 t + 1)) (30 * σ.2 7 t + (σ.2 8 t + 1)) + 1 else zbn (zsA σ 8 t (σ.2 8 t + 1)) (30 * σ.2 7 t + (σ.2 8 t + 1))) - 0 + 1 + 123 * (σ.2 4 (σ.2 7 t) - 1 - (σ.2 8 t + 1)) ≤ 0 + 123 * (σ.2 4 (σ.2 7 t) - 1 - σ.2 8 t)
            split <;> omega
          rw [c1]
          exact Int.add_le_add_left c2 _
        · rw [e10, show (t : Int) + 1 - 1 = (t : Int) by omega, zbeg_12]; exact Int.le_refl 0

/-- what give leaves as it was -/
def zfr (a b : zSt) (T : Int) : Prop := (∀ i j, ¬ (i = 0 ∧ (j = 24 ∨ j = 21 ∨ j = 19)) → b.1 i j = a.1 i j) ∧ (∀ i, i ≤ 10 ∨ i = 13 → b.2 i = a.2 i) ∧ ∀ t, t ≠ T → b.2 11 t = a.2 11 t ∧ b.2 12 t = a.2 12 t
theorem zfr.r {a : zSt} {T : Int} : zfr a a T := ⟨fun _ _ _ => rfl, fun _ _ => rfl, fun _ _ => ⟨rfl, rfl⟩⟩
theorem zfr.a11 {a b : zSt} {T x : Int} (h : zfr a b T) : zfr a (zsA b 11 T x) T := ⟨h.1, fun i q => (zsA_arr (by omega)).trans (h.2.1 i q), fun t q => ⟨(zsA_ne1 (fun e => q e.2)).trans (h.2.2 t q).1, (zsA_ne1 (fun e => q e.2)).trans (h.2.2 t q).2⟩⟩
theorem zfr.a12 {a b : zSt} {T x : Int} (h : zfr a b T) : zfr a (zsA b 12 T x) T := ⟨h.1, fun i q => (zsA_arr (by omega)).trans (h.2.1 i q), fun t q => ⟨(zsA_ne1 (fun e => q e.2)).trans (h.2.2 t q).1, (zsA_ne1 (fun e => q e.2)).trans (h.2.2 t q).2⟩⟩
theorem zfr.tell {a b : zSt} {T x y : Int} (h : zfr a b T) : zfr a (ztell b x y) T := ⟨fun i j q => (ztell_F (by omega)).trans (h.1 i j q), fun i q => (ztell_A (by omega)).trans (h.2.1 i q), fun t q => ⟨(congrFun (ztell_A (by omega)) t).trans (h.2.2 t q).1, (congrFun (ztell_A (by omega)) t).trans (h.2.2 t q).2⟩⟩
theorem zfr.keep {a b : zSt} {T k v c p : Int} (h : zfr a b T) : zfr a (zkeep b T k v c p) T := ⟨fun i j q => (zkeep_F (by omega)).trans (h.1 i j q), fun i q => (zkeep_A (by omega)).trans (h.2.1 i q), fun t q => ⟨(congrFun (zkeep_A (by omega)) t).trans (h.2.2 t q).1, (congrFun (zkeep_A (by omega)) t).trans (h.2.2 t q).2⟩⟩
theorem zfr.rw {a b : zSt} {T : Int} {w : List Int × Int × Int} (h : zfr a b T) : zfr a (zrw b T w) T := by
  refine ⟨fun i j q => (zrw_F (by omega)).trans (h.1 i j q), fun i q => (zrw_A (by omega)).trans (h.2.1 i q), fun t q => ⟨(congrFun (zrw_A (by omega)) t).trans (h.2.2 t q).1, ?_⟩⟩
  unfold zrw
  refine (zsA_ne1 (fun e => q e.2)).trans ?_
  split
  · rw [ztell_A (by omega), zwr_A (by omega)]; exact (h.2.2 t q).2
  · rw [zwr_A (by omega)]; exact (h.2.2 t q).2
theorem zfr.name {a b : zSt} {T wl : Int} (h : zfr a b T) : zfr a (zname b wl).2 T := ⟨fun i j q => (zname_F (by omega)).trans (h.1 i j q), fun i q => (zname_A (by omega)).trans (h.2.1 i q), fun t q => ⟨(congrFun (zname_A (by omega)) t).trans (h.2.2 t q).1, (congrFun (zname_A (by omega)) t).trans (h.2.2 t q).2⟩⟩
set_option maxRecDepth 10000 in
theorem zgive_fr {σ : zSt} {T : Int} (hto : 0 ≤ σ.1 0 19) : zfr σ (zgive σ T).2 T ∧ ((zgive σ T).1 = -1 → (zgive σ T).2.1 0 19 = σ.1 0 19) := by
  unfold zgive
  generalize hr : zgr (σ.2 1) (zmr (σ.2 9) T) (σ.2 10 T) (σ.2 11 T) = r
  generalize σ.2 1 r.1 = c
  unfold zgive1
  split
  · unfold zgv0
    rw [hr]
    split
    · exact ⟨zfr.r.a11.rw.a11.name, fun e => by dsimp only at e; omega⟩
    · exact ⟨zfr.r.a11.rw.a11.name.keep, fun e => absurd (show σ.1 0 19 = -1 from e) (by omega)⟩
  split
  · split
    · exact ⟨zfr.r.a11.a12.keep, fun e => absurd (show σ.1 0 19 = -1 from e) (by omega)⟩
    split
    · exact ⟨zfr.r.a11.a12.keep, fun e => absurd (show σ.1 0 19 = -1 from e) (by omega)⟩
    · exact ⟨zfr.r.a11.a12, fun _ => rfl⟩
  split
  · exact ⟨zfr.r.a11, fun _ => rfl⟩
  split
  · split
    · exact ⟨zfr.r.a11.a12.keep, fun e => absurd (show σ.1 0 19 = -1 from e) (by omega)⟩
    · exact ⟨zfr.r.a11.a12, fun _ => rfl⟩
  split
  · exact ⟨zfr.r.a11.a12, fun _ => rfl⟩
  split
  · exact ⟨zfr.r.a11.tell, fun _ => ztell_F (by omega)⟩
  split
  · split
    · exact ⟨zfr.r.a11.a12.tell.keep, fun e => absurd (show σ.1 0 19 = -1 from e) (by omega)⟩
    · exact ⟨zfr.r.a11.a12.keep, fun e => absurd (show σ.1 0 19 = -1 from e) (by omega)⟩
  · exact ⟨zfr.r.a11.a12.keep, fun e => absurd (show σ.1 0 19 = -1 from e) (by omega)⟩
set_option maxRecDepth 10000 in
theorem zgive_pl {N : Int} {σ : zSt} (hI : zInv N σ) {T : Int} (hp : σ.2 11 T < σ.2 10 T) : σ.2 11 T < (zgive σ T).2.2 11 T := by
  have hlv := hI.2.2.2.2.2.2.2.2.2.2.2.2.2.2.2.2.2.2.1 T
  have hrw := hI.2.2.2.2.2.2.2.2.2.2.2.2.2.2.1
  have hrow0 : ∀ q, 0 ≤ zmr (σ.2 9) T q ∧ zmr (σ.2 9) T q ≤ 255 := fun q => hrw _
  have hpi : zst (zmr (σ.2 9) T) (σ.2 10 T) (σ.2 11 T) = zmr (σ.2 9) T (σ.2 11 T) := zst_in hlv.1 hp
  have hpw := hrow0 (σ.2 11 T)
  have hrg := zsee_rg (cats := σ.2 1) (row := zmr (σ.2 9) T) (len := σ.2 10 T) hrow0 (σ.2 10 T).toNat (zst (zmr (σ.2 9) T) (σ.2 10 T) (σ.2 11 T)) (σ.2 11 T + 1) (by omega) (by omega) (by omega) (by omega)
  have hwr := zword_rg (cats := σ.2 1) (row := zmr (σ.2 9) T) (len := σ.2 10 T) (p := (zgr (σ.2 1) (zmr (σ.2 9) T) (σ.2 10 T) (σ.2 11 T)).2) hrow0 (by unfold zgr; omega) (by unfold zgr; omega) hlv.2.2.1
  have hw : zgwd σ T = zword (σ.2 1) (zmr (σ.2 9) T) (σ.2 10 T) (zgr (σ.2 1) (zmr (σ.2 9) T) (σ.2 10 T) (σ.2 11 T)).2 := rfl
  rw [← hw] at hwr
  have hr2 : σ.2 11 T + 1 ≤ (zgr (σ.2 1) (zmr (σ.2 9) T) (σ.2 10 T) (σ.2 11 T)).2 ∧ (zgr (σ.2 1) (zmr (σ.2 9) T) (σ.2 10 T) (σ.2 11 T)).2 ≤ σ.2 10 T := by unfold zgr; omega
  have key : ∀ s : zSt, s.2 11 T = (zgr (σ.2 1) (zmr (σ.2 9) T) (σ.2 10 T) (σ.2 11 T)).2 → σ.2 11 T < s.2 11 T := fun s e => by omega
  unfold zgive
  generalize hr : zgr (σ.2 1) (zmr (σ.2 9) T) (σ.2 10 T) (σ.2 11 T) = r at hwr hr2 key ⊢
  have k11 : (zsA σ 11 T r.2).2 11 T = r.2 := zsA_eq
  have k12 : ∀ x, (zsA (zsA σ 11 T r.2) 12 T x).2 11 T = r.2 := fun x => (zsA_ne1 (by omega)).trans k11
  generalize σ.2 1 r.1 = c
  unfold zgive1
  split
  · unfold zgv0
    rw [hr]
    have kn : (zname (zsA (zrw (zsA σ 11 T r.2) T (zgwd σ T)) 11 T (zgwd σ T).2.1) (zdl ((zgwd σ T).1.length : Int))).2.2 11 T = (zgwd σ T).2.1 := (congrFun (zname_A (by omega)) T).trans zsA_eq
    split
    · dsimp only; rw [kn]; omega
    · dsimp only; rw [zkeep_A (by omega), kn]; omega
  split
  · split
    · refine key _ ?_; dsimp only; rw [zkeep_A (by omega)]; exact k12 _
    split
    · refine key _ ?_; dsimp only; rw [zkeep_A (by omega)]; exact k12 _
    · exact key _ (k12 _)
  split
  · exact key _ k11
  split
  · split
    · refine key _ ?_; dsimp only; rw [zkeep_A (by omega)]; exact k12 _
    · exact key _ (k12 _)
  split
  · exact key _ (k12 _)
  split
  · refine key _ ?_; dsimp only; rw [ztell_A (by omega)]; exact k11
  split
  · split
    · refine key _ ?_; dsimp only; rw [zkeep_A (by omega), ztell_A (by omega)]; exact k12 _
    · refine key _ ?_; dsimp only; rw [zkeep_A (by omega)]; exact k12 _
  · refine key _ ?_; dsimp only; rw [zkeep_A (by omega)]; exact k12 _
/-- a step of give brings the measure down -/
theorem zmu_give {N : Int} {σ : zSt} (hI : zInv N σ) {T : Int} (hT : σ.1 0 10 = T + 1) (h0 : 0 ≤ T) (hp : σ.2 11 T < σ.2 10 T) (hst : 0 ≤ σ.2 12 T) : zmu (zgive σ T).2 ((zgive σ T).2.1 0 10).toNat < zmu σ (σ.1 0 10).toNat := by
  have f := (zgive_fr (σ := σ) (T := T) hI.2.2.2.1.1).1
  have p := zgive_pl hI hp
  generalize (zgive σ T).2 = s at f p ⊢
  rw [f.1 0 10 (by omega), hT, show (T + 1).toNat = T.toNat + 1 by omega, zmu, zmu]
  have c1 : zmu s T.toNat = zmu σ T.toNat := zmu_cg _ (fun t q0 q1 => by
    unfold zlvm
    rw [(f.2.2 t (by omega)).1, (f.2.2 t (by omega)).2, f.2.1 10 (by omega), f.2.1 4 (by omega), f.2.1 7 (by omega), f.2.1 8 (by omega)])
  have e : ((T.toNat : Nat) : Int) = T := by omega
  rw [c1, e]
  refine Int.add_lt_add_left ?_ _
  unfold zlvm
  rw [f.2.1 10 (by omega), f.2.1 4 (by omega), f.2.1 7 (by omega), f.2.1 8 (by omega), if_pos hst]
  split <;> omega
theorem zmu_over {σ : zSt} {T : Int} (hT : σ.1 0 10 = T + 1) (h0 : 0 ≤ T) (hp : σ.2 11 T ≤ σ.2 10 T) (hst : 0 ≤ σ.2 12 T) : zmu (zsA σ 12 T (-1)) ((zsA σ 12 T (-1)).1 0 10).toNat < zmu σ (σ.1 0 10).toNat := by
  have e10 : (zsA σ 12 T (-1)).1 0 10 = σ.1 0 10 := rfl
  rw [e10, hT, show (T + 1).toNat = T.toNat + 1 by omega, zmu, zmu]
  have c1 : zmu (zsA σ 12 T (-1)) T.toNat = zmu σ T.toNat := zmu_cg _ (fun t q0 q1 => by
    have e2 : (zsA σ 12 T (-1)).2 12 t = σ.2 12 t := zsA_ne1 (by omega)
    unfold zlvm
    rw [e2]; rfl)
  have e : ((T.toNat : Nat) : Int) = T := by omega
  rw [c1, e]
  refine Int.add_lt_add_left ?_ _
  have e2 : (zsA σ 12 T (-1)).2 12 T = -1 := zsA_eq
  unfold zlvm
  rw [e2, if_pos hst, if_neg (by decide)]
  show 0 + 123 * (σ.2 4 (σ.2 7 T) - 1 - σ.2 8 T) < _
  omega
theorem zmu_eqM {a b : zSt} (h : eqM a b) : zmu a (a.1 0 10).toNat = zmu b (b.1 0 10).toNat := by
  rw [h.1 0 10 zN10]
  refine zmu_cg _ (fun t _ _ => ?_)
  unfold zlvm
  rw [h.2 12, h.2 10, h.2 11, h.2 4, h.2 7, h.2 8]
theorem N_X7_hasLine {G : zG} {σ : zSt} {Post : Option Value → zSt → Prop} {N : Int} (hI : zInv N σ) (hN : N ≤ 2000000000) (s : zSt) (hs : zhl (σ.1 0 10).toNat σ = s) (h1 : 0 < s.1 0 10 → Post (some (.int (zI 1))) s) (h0 : s.1 0 10 ≤ 0 → Post (some (.int (zI 0))) s) : zV G shM mX7_hasLine 0 (zini 3 [.ref (zad G 0)]) [] σ Post := by
  subst hs
  obtain ⟨hgr, hfi, hle, hto, hna, hes, htl, hbg, hca, hsa, hme, hlc, hln, hsg, hrw, hnl, hns, hwd, hlv, hlf, hdi, htk⟩ := hI
  refine M_X7_hasLine hle.1 hle.2 (fun t q0 q1 => ?_) (fun t => ?_) hlc hln hbg.1 (by omega) h1 h0
  · have := hlf t q0 q1; omega
  · have := hlv t; omega
/-- facts of what hasLine leaves -/
theorem zhl_fact {N : Int} {σ s : zSt} (hI : zInv N σ) (hs : zhl (σ.1 0 10).toNat σ = s) : zInv (N + 1) s ∧ 0 ≤ s.1 0 10 ∧ s.1 0 10 ≤ σ.1 0 10 ∧ zmu s (s.1 0 10).toNat ≤ zmu σ (σ.1 0 10).toNat ∧ (0 < s.1 0 10 → 0 ≤ s.2 12 (s.1 0 10 - 1)) ∧ s.1 0 19 = σ.1 0 19 := by
  have hle := hI.2.2.1
  have := zhl_spec (σ.1 0 10).toNat σ hI (by omega)
  rw [hs] at this
  obtain ⟨a, b, c, d, e, f⟩ := this
  exact ⟨a, b, by omega, d, e, f⟩

theorem zgive_res {σ : zSt} {T : Int} (h0 : 0 ≤ σ.1 0 19) (h1 : σ.1 0 19 < 600) : -4 ≤ (zgive σ T).1 ∧ (zgive σ T).1 < 600 := by
  unfold zgive
  generalize zgr (σ.2 1) (zmr (σ.2 9) T) (σ.2 10 T) (σ.2 11 T) = r
  generalize σ.2 1 r.1 = c
  unfold zgive1
  split
  · unfold zgv0
    split <;> (dsimp only; omega)
  split
  · split
    · dsimp only; omega
    split <;> (dsimp only; omega)
  split
  · dsimp only; omega
  split
  · split <;> (dsimp only; omega)
  split
  · dsimp only; omega
  split
  · dsimp only; omega
  split
  · split <;> (dsimp only; omega)
  · dsimp only; omega

set_option maxRecDepth 100000 in
theorem L_X7_next {G : zG} {σ : zSt} {Post : Option Value → zSt → Prop}  : ∀ (m : Nat) (σ : zSt) (hR : zRg σ) (N : Int) (hI : zInv N σ) (hN : N + 2 * m ≤ 2000000000) (hto : 0 < σ.1 0 10 → σ.1 0 19 < 600) (hmu : zmu σ (σ.1 0 10).toNat < m) (y2 : Option Value) (h : ∀ σ2, eqM σ2 (znx m σ).2 → Post (some (.int (zI (znx m σ).1))) σ2), zV G shM mX7_next 27 [some (.ref (zad G 0)), some (.int (zI (-1))), y2] [] σ Post := by
  intro m
  induction m with
  | zero =>
    intro σ hR N hI hN hto hmu y2 h
    have hz := zmu_rg hI (σ.1 0 10).toNat (by have := hI.2.2.1; omega)
    omega
  | succ m ih =>
    intro σ hR N hI hN hto hmu y2 h
    have hto0 := hI.2.2.2.1
    refine z_iload_1 dX7_next_27 ?_
    refine z_iconst (-1) dX7_next_28 rfl ?_
    refine z_icmp_ne (tgt := 79) dX7_next_29 (by decide) ⟨by decide, by decide⟩ ⟨by decide, by decide⟩ (fun c29 => by exfalso; omega) (fun c29 => ?_)
    refine z_aload_0 dX7_next_32 ?_
    refine z_callV mX7_hasLine [] dX7_next_33 zk_X7_hasLine zl_X7_146 ⟨Nat.le_of_ble_eq_true rfl, Nat.le_of_ble_eq_true rfl⟩ rfl rfl (Nat.le_of_ble_eq_true rfl) (Nat.le_of_ble_eq_true rfl) ?_
    obtain ⟨s, hs⟩ : ∃ s, zhl (σ.1 0 10).toNat σ = s := ⟨_, rfl⟩
    obtain ⟨sI, sl0, sl1, smu, sst, sto⟩ := zhl_fact hI hs
    refine N_X7_hasLine hI (by omega) s hs (fun h10 => ?_) (fun h10 => ?_)
    · refine z_b1 ?_
      obtain ⟨T, hT⟩ : ∃ T, s.1 0 10 = T + 1 := ⟨s.1 0 10 - 1, by omega⟩
      have hT0 : 0 ≤ T := by omega
      have hT6 : T < 6 := by have := sI.2.2.1; omega
      have hst : 0 ≤ s.2 12 T := by have := sst h10; rw [hT, show T + 1 - 1 = T by omega] at this; exact this
      have hle2 := sI.2.2.1
      have hlv2 := sI.2.2.2.2.2.2.2.2.2.2.2.2.2.2.2.2.2.2.1 T
      refine z_rg (fun hR2 => ?_)
      refine z_if_eq (tgt := 79) dX7_next_36 (by decide) ⟨by decide, by decide⟩ (fun c36 => by exfalso; omega) (fun c36 => ?_)
      refine z_aload_0 dX7_next_39 ?_
      refine z_getI (j := 10) dX7_next_40 zf_X7_90 rfl rfl ?_
      have w1 : zR (s.1 0 10) := hR2.1 0 10
      refine z_iconst 1 dX7_next_43 rfl ?_
      refine z_isub dX7_next_44 ?_
      refine z_top (b := T) (by omega) ?_
      refine z_istore_2 dX7_next_45 (Nat.le_of_ble_eq_true rfl) rfl ?_
      refine z_aload_0 dX7_next_46 ?_
      refine z_getR (j := 15) dX7_next_47 zf_X7_45 rfl rfl ?_
      refine z_iload_2 dX7_next_50 ?_
      refine z_iald dX7_next_51 rfl (by decide) (by omega) (by omega) ?_
      have w2 : zR (s.2 11 T) := hR2.2 11 T
      refine z_aload_0 dX7_next_52 ?_
      refine z_getR (j := 14) dX7_next_53 zf_X7_42 rfl rfl ?_
      refine z_iload_2 dX7_next_56 ?_
      refine z_iald dX7_next_57 rfl (by decide) (by omega) (by omega) ?_
      have w3 : zR (s.2 10 T) := hR2.2 10 T
      refine z_icmp_lt (tgt := 71) dX7_next_58 (by decide) (by omega) (by omega) (fun c58 => ?_) (fun c58 => ?_)
      · refine z_aload_0 dX7_next_71 ?_
        refine z_callV mX7_give [] dX7_next_72 zk_X7_give zl_X7_150 ⟨Nat.le_of_ble_eq_true rfl, Nat.le_of_ble_eq_true rfl⟩ rfl rfl (Nat.le_of_ble_eq_true rfl) (Nat.le_of_ble_eq_true rfl) ?_
        refine M_X7_give T hT0 (by omega) hT (by omega) (by omega) (by omega) sI.2.2.2.2.2.2.2.2.2.2.2.2.2.2.1 sI.2.2.2.2.2.2.1.1 (by have := sI.2.2.2.2.2.2.1.2; omega) (by omega) (by omega) sI.2.2.2.2.1.1 sI.2.2.2.2.1.2 sI.2.2.2.2.2.2.2.2.2.2.2.2.2.2.2.1 (by omega) (fun σ2 e2 => ?_)
        refine z_b1 ?_
        refine z_rg (fun hR3 => ?_)
        refine z_istore_1 dX7_next_75 (Nat.le_of_ble_eq_true rfl) rfl ?_
        refine z_goto (tgt := 27) dX7_next_76 (by decide) ?_
        have hmg := zmu_give sI hT hT0 (by omega) hst
        have gI := inv_give sI T (by omega) (by omega)
        have gr := zgive_fr (σ := s) (T := T) (by omega)
        have rI := zInv_eqM gI e2
        rcases Decidable.em ((zgive s T).1 = -1) with hg | hg
        · rw [znx_c hs hT hT0 (by omega) hg] at h
          rw [hg]
          have hz := eqM_nx m e2
          have t10 : σ2.1 0 10 = s.1 0 10 := (e2.1 0 10 zN10).trans (gr.1.1 0 10 (by omega))
          have t19 : σ2.1 0 19 = s.1 0 19 := (e2.1 0 19 zN19).trans (gr.2 hg)
          refine ih σ2 hR3 (N + 1 + 1) rI (by omega) (fun q => by omega) (by rw [zmu_eqM e2]; omega) _ (fun σ3 e3 => ?_)
          rw [hz.1]
          exact h σ3 (e3.trans hz.2)
        · rw [znx_d hs hT hT0 (by omega) hg] at h
          have hgR := zR_toInt (zI (zgive s T).1)
          have hgr2 := zgive_res (σ := s) (T := T) (by omega) (by omega)
          refine z_iload_1 dX7_next_27 ?_
          refine z_iconst (-1) dX7_next_28 rfl ?_
          refine z_icmp_ne (tgt := 79) dX7_next_29 (by decide) (by omega) ⟨by decide, by decide⟩ (fun c29 => ?_) (fun c29 => by exfalso; omega)
          refine z_iload_1 dX7_next_79 ?_
          refine z_iconst (-1) dX7_next_80 rfl ?_
          refine z_icmp_ne (tgt := 89) dX7_next_81 (by decide) (by omega) ⟨by decide, by decide⟩ (fun c81 => ?_) (fun c81 => by exfalso; omega)
          refine z_iload_1 dX7_next_89 ?_
          refine z_iret dX7_next_90 rfl ?_
          exact h σ2 e2
      · refine z_aload_0 dX7_next_61 ?_
        refine z_getR (j := 16) dX7_next_62 zf_X7_48 rfl rfl ?_
        refine z_iload_2 dX7_next_65 ?_
        refine z_iconst (-1) dX7_next_66 rfl ?_
        refine z_iast dX7_next_67 rfl (by decide) (by omega) (by omega) ⟨by decide, by decide⟩ ?_
        refine z_goto (tgt := 76) dX7_next_68 (by decide) ?_
        refine z_goto (tgt := 27) dX7_next_76 (by decide) ?_
        rw [znx_b hs hT hT0 (by omega)] at h
        refine ih (zsA s 12 T (-1)) (hR2.A (by omega)) (N + 1) (inv_A12 sI T (-1) (by omega)) (by omega) (fun q => by have e : (zsA s 12 T (-1)).1 0 19 = s.1 0 19 := rfl; omega) (by have := zmu_over hT hT0 (by omega) hst; omega) _ h
    · refine z_b1 ?_
      refine z_if_eq (tgt := 79) dX7_next_36 (by decide) ⟨by decide, by decide⟩ (fun c36 => ?_) (fun c36 => by exfalso; omega)
      refine z_iload_1 dX7_next_79 ?_
      refine z_iconst (-1) dX7_next_80 rfl ?_
      refine z_icmp_ne (tgt := 89) dX7_next_81 (by decide) ⟨by decide, by decide⟩ ⟨by decide, by decide⟩ (fun c81 => by exfalso; omega) (fun c81 => ?_)
      refine z_bipush (-3) dX7_next_84 (by decide +kernel) ?_
      refine z_goto (tgt := 90) dX7_next_86 (by decide) ?_
      refine z_iret dX7_next_90 rfl ?_
      rw [znx_a hs h10] at h
      exact h s eqM.rfl'

set_option maxRecDepth 100000 in
theorem M_X7_next {G : zG} {σ : zSt} {Post : Option Value → zSt → Prop} {N : Int} (hI : zInv N σ) (hN : N ≤ 2000000000) (hN9 : N + 2000000 ≤ 2000000000) (h4 : 0 < σ.1 0 10 → σ.1 0 19 = 600 → ∀ σ2, eqM σ2 σ → Post (some (.int (zI (-4)))) σ2) (h : (0 < σ.1 0 10 → σ.1 0 19 < 600) → ∀ σ2, eqM σ2 (znx 1000000 σ).2 → Post (some (.int (zI (znx 1000000 σ).1))) σ2) : zV G shM mX7_next 0 (zini 3 [.ref (zad G 0)]) [] σ Post := by
  refine z_rg (fun hR => ?_)
  refine z_lv (lv' := [some (.ref (zad G 0)), none, none]) rfl ?_
  have hI0 := hI
  obtain ⟨hgr, hfi, hle, hto, hna, hes, htl, hbg, hca, hsa, hme, hlc, hln, hsg, hrw, hnl, hns, hwd, hlv, hlf, hdi, htk⟩ := hI
  refine z_aload_0 dX7_next_0 ?_
  refine z_iconst 0 dX7_next_1 rfl ?_
  refine z_putI (j := 0) dX7_next_2 zp_X7_72 rfl rfl ⟨by decide, by decide⟩ ?_
  refine z_aload_0 dX7_next_5 ?_
  refine z_getI (j := 10) dX7_next_6 zf_X7_90 rfl rfl ?_
  refine z_top (b := σ.1 0 10) (zsF_ne (by omega)) ?_
  have w1 : zR (σ.1 0 10) := hR.1 0 10
  refine z_if_le (tgt := 25) dX7_next_9 (by decide) (by omega) (fun c9 => ?_) (fun c9 => ?_)
  · refine z_iconst (-1) dX7_next_25 rfl ?_
    refine z_istore_1 dX7_next_26 (Nat.le_of_ble_eq_true rfl) rfl ?_
    have e1 : eqM (zsF σ 0 0 0) σ := eqM.jF zJ0 eqM.rfl'
    have hz := eqM_nx 1000000 e1
    have hmr := zmu_rg hI0 (σ.1 0 10).toNat (by omega)
    refine L_X7_next (σ := σ) 1000000 (zsF σ 0 0 0) (hR.F (by omega)) N (zInv_eqM hI0 e1) (by omega) (fun q => ?_) (by rw [zmu_eqM e1]; omega) none (fun σ2 e2 => ?_)
    · have q1 : 0 < σ.1 0 10 := q
      show σ.1 0 19 < 600
      omega
    · rw [hz.1]; exact h (by omega) σ2 (e2.trans hz.2)
  · refine z_aload_0 dX7_next_12 ?_
    refine z_getI (j := 19) dX7_next_13 zf_X7_119 rfl rfl ?_
    refine z_top (b := σ.1 0 19) (zsF_ne (by omega)) ?_
    have w2 : zR (σ.1 0 19) := hR.1 0 19
    refine z_sipush 600 dX7_next_16 (by decide +kernel) ?_
    refine z_icmp_ne (tgt := 25) dX7_next_19 (by decide) (by omega) ⟨by decide, by decide⟩ (fun c19 => ?_) (fun c19 => ?_)
    · refine z_iconst (-1) dX7_next_25 rfl ?_
      refine z_istore_1 dX7_next_26 (Nat.le_of_ble_eq_true rfl) rfl ?_
      have e1 : eqM (zsF σ 0 0 0) σ := eqM.jF zJ0 eqM.rfl'
      have hz := eqM_nx 1000000 e1
      have hmr := zmu_rg hI0 (σ.1 0 10).toNat (by omega)
      refine L_X7_next (σ := σ) 1000000 (zsF σ 0 0 0) (hR.F (by omega)) N (zInv_eqM hI0 e1) (by omega) (fun q => ?_) (by rw [zmu_eqM e1]; omega) none (fun σ2 e2 => ?_)
      · have q1 : 0 < σ.1 0 10 := q
        show σ.1 0 19 < 600
        omega
      · rw [hz.1]; exact h (by omega) σ2 (e2.trans hz.2)
    · refine z_bipush (-4) dX7_next_22 (by decide +kernel) ?_
      refine z_iret dX7_next_24 rfl ?_
      exact zPq (h4 (by omega) (by omega)) rfl (eqM.jF (by unfold zJ; omega) eqM.rfl')

def zraw (σ : zSt) : Int × zSt :=
  if (zhl (σ.1 0 10).toNat σ).1 0 10 ≤ 0 then (-3, zhl (σ.1 0 10).toNat σ)
  else if (zhl (σ.1 0 10).toNat σ).2 10 ((zhl (σ.1 0 10).toNat σ).1 0 10 - 1) ≤ (zhl (σ.1 0 10).toNat σ).2 11 ((zhl (σ.1 0 10).toNat σ).1 0 10 - 1) then (-5, zsA (zhl (σ.1 0 10).toNat σ) 12 ((zhl (σ.1 0 10).toNat σ).1 0 10 - 1) (-1))
  else ((zhl (σ.1 0 10).toNat σ).1 0 19, zkeep (zsA (zhl (σ.1 0 10).toNat σ) 11 ((zhl (σ.1 0 10).toNat σ).1 0 10 - 1) ((zhl (σ.1 0 10).toNat σ).2 11 ((zhl (σ.1 0 10).toNat σ).1 0 10 - 1) + 1)) ((zhl (σ.1 0 10).toNat σ).1 0 10 - 1) 0 (zmr ((zhl (σ.1 0 10).toNat σ).2 9) ((zhl (σ.1 0 10).toNat σ).1 0 10 - 1) ((zhl (σ.1 0 10).toNat σ).2 11 ((zhl (σ.1 0 10).toNat σ).1 0 10 - 1))) 12 ((zhl (σ.1 0 10).toNat σ).2 11 ((zhl (σ.1 0 10).toNat σ).1 0 10 - 1)))
theorem zraw_a {σ s : zSt} (hs : zhl (σ.1 0 10).toNat σ = s) (h : s.1 0 10 ≤ 0) : zraw σ = (-3, s) := by subst hs; exact if_pos h
theorem zraw_b {σ s : zSt} {T : Int} (hs : zhl (σ.1 0 10).toNat σ = s) (hT : s.1 0 10 = T + 1) (h0 : 0 ≤ T) (h : s.2 10 T ≤ s.2 11 T) : zraw σ = (-5, zsA s 12 T (-1)) := by
  have e : T = s.1 0 10 - 1 := by omega
  subst e; subst hs
  exact (if_neg (by omega)).trans (if_pos h)
theorem zraw_c {σ s : zSt} {T : Int} (hs : zhl (σ.1 0 10).toNat σ = s) (hT : s.1 0 10 = T + 1) (h0 : 0 ≤ T) (h : s.2 11 T < s.2 10 T) : zraw σ = (s.1 0 19, zkeep (zsA s 11 T (s.2 11 T + 1)) T 0 (zmr (s.2 9) T (s.2 11 T)) 12 (s.2 11 T)) := by
  have e : T = s.1 0 10 - 1 := by omega
  subst e; subst hs
  exact (if_neg (by omega)).trans (if_neg (by omega))
theorem eqM_raw {a b : zSt} (h : eqM a b) : (zraw a).1 = (zraw b).1 ∧ eqM (zraw a).2 (zraw b).2 := by
  have e10 : a.1 0 10 = b.1 0 10 := h.1 0 10 zN10
  have hs := eqM_hl (b.1 0 10).toNat h
  have f10 : (zhl (b.1 0 10).toNat a).1 0 10 = (zhl (b.1 0 10).toNat b).1 0 10 := hs.1 0 10 zN10
  have f19 : (zhl (b.1 0 10).toNat a).1 0 19 = (zhl (b.1 0 10).toNat b).1 0 19 := hs.1 0 19 zN19
  rw [zraw, zraw, e10, f10, hs.2 10, hs.2 11, hs.2 9, f19]
  split
  · exact ⟨rfl, hs⟩
  · split
    · exact ⟨rfl, hs.A⟩
    · exact ⟨rfl, eqM_keep hs.A⟩

set_option maxRecDepth 100000 in
theorem M_X7_raw {G : zG} {σ : zSt} {Post : Option Value → zSt → Prop} {N : Int} (hI : zInv N σ) (hN : N ≤ 2000000000) (h4 : 0 < σ.1 0 10 → σ.1 0 19 = 600 → ∀ σ2, eqM σ2 σ → Post (some (.int (zI (-4)))) σ2) (h : (0 < σ.1 0 10 → σ.1 0 19 < 600) → ∀ σ2, eqM σ2 (zraw σ).2 → Post (some (.int (zI (zraw σ).1))) σ2) : zV G shM mX7_raw 0 (zini 3 [.ref (zad G 0)]) [] σ Post := by
  refine z_rg (fun hR => ?_)
  refine z_lv (lv' := [some (.ref (zad G 0)), none, none]) rfl ?_
  have hI0 := hI
  obtain ⟨hgr, hfi, hle, hto, hna, hes, htl, hbg, hca, hsa, hme, hlc, hln, hsg, hrw, hnl, hns, hwd, hlv, hlf, hdi, htk⟩ := hI
  refine z_aload_0 dX7_raw_0 ?_
  refine z_iconst 0 dX7_raw_1 rfl ?_
  refine z_putI (j := 0) dX7_raw_2 zp_X7_72 rfl rfl ⟨by decide, by decide⟩ ?_
  refine z_aload_0 dX7_raw_5 ?_
  refine z_getI (j := 10) dX7_raw_6 zf_X7_90 rfl rfl ?_
  refine z_top (b := σ.1 0 10) (zsF_ne (by omega)) ?_
  have w1 : zR (σ.1 0 10) := hR.1 0 10
  refine z_if_le (tgt := 25) dX7_raw_9 (by decide) (by omega) (fun c9 => ?_) (fun c9 => ?_)
  · refine z_aload_0 dX7_raw_25 ?_
    refine z_callV mX7_hasLine [] dX7_raw_26 zk_X7_hasLine zl_X7_146 ⟨Nat.le_of_ble_eq_true rfl, Nat.le_of_ble_eq_true rfl⟩ rfl rfl (Nat.le_of_ble_eq_true rfl) (Nat.le_of_ble_eq_true rfl) ?_
    have e1 : eqM (zsF σ 0 0 0) σ := eqM.jF zJ0 eqM.rfl'
    have hz := eqM_raw e1
    obtain ⟨s, hs⟩ : ∃ s, zhl ((zsF σ 0 0 0).1 0 10).toNat (zsF σ 0 0 0) = s := ⟨_, rfl⟩
    obtain ⟨sI, sl0, sl1, smu, sst, sto⟩ := zhl_fact (zInv_eqM hI0 e1) hs
    refine N_X7_hasLine (zInv_eqM hI0 e1) (by omega) s hs (fun h10 => ?_) (fun h10 => ?_)
    · refine z_b1 ?_
      have t19 : s.1 0 19 = σ.1 0 19 := sto
      have t10 : s.1 0 10 ≤ σ.1 0 10 := sl1
      obtain ⟨T, hT⟩ : ∃ T, s.1 0 10 = T + 1 := ⟨s.1 0 10 - 1, by omega⟩
      have hT0 : 0 ≤ T := by omega
      have hT6 : T < 6 := by have := sI.2.2.1; omega
      have hst : 0 ≤ s.2 12 T := by have := sst h10; rw [hT, show T + 1 - 1 = T by omega] at this; exact this
      have hle2 := sI.2.2.1
      have hlv2 := sI.2.2.2.2.2.2.2.2.2.2.2.2.2.2.2.2.2.2.1 T
      refine z_rg (fun hR2 => ?_)
      refine z_if_ne (tgt := 35) dX7_raw_29 (by decide) ⟨by decide, by decide⟩ (fun c29 => ?_) (fun c29 => by exfalso; omega)
      refine z_aload_0 dX7_raw_35 ?_
      refine z_getI (j := 10) dX7_raw_36 zf_X7_90 rfl rfl ?_
      have w2 : zR (s.1 0 10) := hR2.1 0 10
      refine z_iconst 1 dX7_raw_39 rfl ?_
      refine z_isub dX7_raw_40 ?_
      refine z_top (b := T) (by omega) ?_
      refine z_istore_1 dX7_raw_41 (Nat.le_of_ble_eq_true rfl) rfl ?_
      refine z_aload_0 dX7_raw_42 ?_
      refine z_aload_0 dX7_raw_43 ?_
      refine z_getR (j := 15) dX7_raw_44 zf_X7_45 rfl rfl ?_
      refine z_iload_1 dX7_raw_47 ?_
      refine z_iald dX7_raw_48 rfl (by decide) (by omega) (by omega) ?_
      have w3 : zR (s.2 11 T) := hR2.2 11 T
      refine z_callV mX7_standing [.int (zI (s.2 11 T))] dX7_raw_49 zk_X7_standing zl_X7_100 ⟨Nat.le_of_ble_eq_true rfl, Nat.le_of_ble_eq_true rfl⟩ rfl rfl (Nat.le_of_ble_eq_true rfl) (Nat.le_of_ble_eq_true rfl) ?_
      refine M_X7_standing T hT0 (by omega) hT (s.2 11 T) (by omega) (by omega) (by omega) ?_
      refine z_b1 ?_
      have w4 := zst_R (zmr (s.2 9) T) (s.2 10 T) (s.2 11 T) (fun q => hR2.2 9 _)
      refine z_istore_2 dX7_raw_52 (Nat.le_of_ble_eq_true rfl) rfl ?_
      refine z_iload_2 dX7_raw_53 ?_
      refine z_if_ge (tgt := 67) dX7_raw_54 (by decide) (by omega) (fun c54 => ?_) (fun c54 => ?_)
      · refine z_aload_0 dX7_raw_67 ?_
        refine z_getR (j := 15) dX7_raw_68 zf_X7_45 rfl rfl ?_
        refine z_iload_1 dX7_raw_71 ?_
        refine z_dup2 dX7_raw_72 rfl rfl ?_
        refine z_iald dX7_raw_73 rfl (by decide) (by omega) (by omega) ?_
        have w5 : zR (s.2 11 T) := hR2.2 11 T
        refine z_iconst 1 dX7_raw_74 rfl ?_
        refine z_iadd dX7_raw_75 ?_
        refine z_iast dX7_raw_76 rfl (by decide) (by omega) (by omega) (by omega) ?_
        refine z_aload_0 dX7_raw_77 ?_
        refine z_iconst 0 dX7_raw_78 rfl ?_
        refine z_iload_2 dX7_raw_79 ?_
        refine z_bipush 12 dX7_raw_80 (by decide +kernel) ?_
        refine z_aload_0 dX7_raw_82 ?_
        refine z_getR (j := 15) dX7_raw_83 zf_X7_45 rfl rfl ?_
        refine z_iload_1 dX7_raw_86 ?_
        refine z_iald dX7_raw_87 rfl (by decide) (by omega) (by omega) ?_
        refine z_top (b := ((s.2 11 T) + 1)) zsA_eq ?_
        refine z_iconst 1 dX7_raw_88 rfl ?_
        refine z_isub dX7_raw_89 ?_
        refine z_callV mX7_keep [.int (zI 0), .int (zI (zst (zmr (s.2 9) T) (s.2 10 T) (s.2 11 T))), .int (zI 12), .int (zI (((s.2 11 T) + 1) - 1))] dX7_raw_90 zk_X7_keep zl_X7_142 ⟨Nat.le_of_ble_eq_true rfl, Nat.le_of_ble_eq_true rfl⟩ rfl rfl (Nat.le_of_ble_eq_true rfl) (Nat.le_of_ble_eq_true rfl) ?_
        refine M_X7_keepZ T hT0 hT6 (zeqE (b := s.1 0 10) zsA_F (by omega)) 0 (zst (zmr (s.2 9) T) (s.2 10 T) (s.2 11 T)) 12 (((s.2 11 T) + 1) - 1) (by omega) (by omega) (by omega) (by omega) (zgeE (b := s.1 0 19) zsA_F (by omega)) (zltE (b := s.1 0 19) zsA_F (by omega)) ?_
        refine z_b1 ?_
        refine z_top (b := s.1 0 19) zsA_F ?_
        refine z_iret dX7_raw_93 rfl ?_
        have hlt : s.2 11 T < s.2 10 T := zst_pos c54
        have ev : zst (zmr (s.2 9) T) (s.2 10 T) (s.2 11 T) = zmr (s.2 9) T (s.2 11 T) := zst_in hlv2.1 hlt
        rw [zraw_c hs hT hT0 hlt] at hz
        have hz2 := h (by omega)
        rw [← hz.1] at hz2
        rw [ev, show s.2 11 T + 1 - 1 = s.2 11 T by omega]
        exact hz2 _ hz.2
      · refine z_aload_0 dX7_raw_57 ?_
        refine z_getR (j := 16) dX7_raw_58 zf_X7_48 rfl rfl ?_
        refine z_iload_1 dX7_raw_61 ?_
        refine z_iconst (-1) dX7_raw_62 rfl ?_
        refine z_iast dX7_raw_63 rfl (by decide) (by omega) (by omega) ⟨by decide, by decide⟩ ?_
        refine z_bipush (-5) dX7_raw_64 (by decide +kernel) ?_
        refine z_iret dX7_raw_66 rfl ?_
        have hlt : s.2 10 T ≤ s.2 11 T := zst_neg (row := zmr (s.2 9) T) (fun q => sI.2.2.2.2.2.2.2.2.2.2.2.2.2.2.1 _) hlv2.1 c54
        rw [zraw_b hs hT hT0 hlt] at hz
        have hz2 := h (by omega)
        rw [← hz.1] at hz2
        exact hz2 _ hz.2
    · refine z_b1 ?_
      have t19 : s.1 0 19 = σ.1 0 19 := sto
      have t10 : s.1 0 10 ≤ σ.1 0 10 := sl1
      refine z_if_ne (tgt := 35) dX7_raw_29 (by decide) ⟨by decide, by decide⟩ (fun c29 => by exfalso; omega) (fun c29 => ?_)
      refine z_bipush (-3) dX7_raw_32 (by decide +kernel) ?_
      refine z_iret dX7_raw_34 rfl ?_
      rw [zraw_a hs h10] at hz
      have hz2 := h (by omega)
      rw [← hz.1] at hz2
      exact hz2 s hz.2
  · refine z_aload_0 dX7_raw_12 ?_
    refine z_getI (j := 19) dX7_raw_13 zf_X7_119 rfl rfl ?_
    refine z_top (b := σ.1 0 19) (zsF_ne (by omega)) ?_
    have w6 : zR (σ.1 0 19) := hR.1 0 19
    refine z_sipush 600 dX7_raw_16 (by decide +kernel) ?_
    refine z_icmp_ne (tgt := 25) dX7_raw_19 (by decide) (by omega) ⟨by decide, by decide⟩ (fun c19 => ?_) (fun c19 => ?_)
    · refine z_aload_0 dX7_raw_25 ?_
      refine z_callV mX7_hasLine [] dX7_raw_26 zk_X7_hasLine zl_X7_146 ⟨Nat.le_of_ble_eq_true rfl, Nat.le_of_ble_eq_true rfl⟩ rfl rfl (Nat.le_of_ble_eq_true rfl) (Nat.le_of_ble_eq_true rfl) ?_
      have e1 : eqM (zsF σ 0 0 0) σ := eqM.jF zJ0 eqM.rfl'
      have hz := eqM_raw e1
      obtain ⟨s, hs⟩ : ∃ s, zhl ((zsF σ 0 0 0).1 0 10).toNat (zsF σ 0 0 0) = s := ⟨_, rfl⟩
      obtain ⟨sI, sl0, sl1, smu, sst, sto⟩ := zhl_fact (zInv_eqM hI0 e1) hs
      refine N_X7_hasLine (zInv_eqM hI0 e1) (by omega) s hs (fun h10 => ?_) (fun h10 => ?_)
      · refine z_b1 ?_
        have t19 : s.1 0 19 = σ.1 0 19 := sto
        have t10 : s.1 0 10 ≤ σ.1 0 10 := sl1
        obtain ⟨T, hT⟩ : ∃ T, s.1 0 10 = T + 1 := ⟨s.1 0 10 - 1, by omega⟩
        have hT0 : 0 ≤ T := by omega
        have hT6 : T < 6 := by have := sI.2.2.1; omega
        have hst : 0 ≤ s.2 12 T := by have := sst h10; rw [hT, show T + 1 - 1 = T by omega] at this; exact this
        have hle2 := sI.2.2.1
        have hlv2 := sI.2.2.2.2.2.2.2.2.2.2.2.2.2.2.2.2.2.2.1 T
        refine z_rg (fun hR2 => ?_)
        refine z_if_ne (tgt := 35) dX7_raw_29 (by decide) ⟨by decide, by decide⟩ (fun c29 => ?_) (fun c29 => by exfalso; omega)
        refine z_aload_0 dX7_raw_35 ?_
        refine z_getI (j := 10) dX7_raw_36 zf_X7_90 rfl rfl ?_
        have w7 : zR (s.1 0 10) := hR2.1 0 10
        refine z_iconst 1 dX7_raw_39 rfl ?_
        refine z_isub dX7_raw_40 ?_
        refine z_top (b := T) (by omega) ?_
        refine z_istore_1 dX7_raw_41 (Nat.le_of_ble_eq_true rfl) rfl ?_
        refine z_aload_0 dX7_raw_42 ?_
        refine z_aload_0 dX7_raw_43 ?_
        refine z_getR (j := 15) dX7_raw_44 zf_X7_45 rfl rfl ?_
        refine z_iload_1 dX7_raw_47 ?_
        refine z_iald dX7_raw_48 rfl (by decide) (by omega) (by omega) ?_
        have w8 : zR (s.2 11 T) := hR2.2 11 T
        refine z_callV mX7_standing [.int (zI (s.2 11 T))] dX7_raw_49 zk_X7_standing zl_X7_100 ⟨Nat.le_of_ble_eq_true rfl, Nat.le_of_ble_eq_true rfl⟩ rfl rfl (Nat.le_of_ble_eq_true rfl) (Nat.le_of_ble_eq_true rfl) ?_
        refine M_X7_standing T hT0 (by omega) hT (s.2 11 T) (by omega) (by omega) (by omega) ?_
        refine z_b1 ?_
        have w9 := zst_R (zmr (s.2 9) T) (s.2 10 T) (s.2 11 T) (fun q => hR2.2 9 _)
        refine z_istore_2 dX7_raw_52 (Nat.le_of_ble_eq_true rfl) rfl ?_
        refine z_iload_2 dX7_raw_53 ?_
        refine z_if_ge (tgt := 67) dX7_raw_54 (by decide) (by omega) (fun c54 => ?_) (fun c54 => ?_)
        · refine z_aload_0 dX7_raw_67 ?_
          refine z_getR (j := 15) dX7_raw_68 zf_X7_45 rfl rfl ?_
          refine z_iload_1 dX7_raw_71 ?_
          refine z_dup2 dX7_raw_72 rfl rfl ?_
          refine z_iald dX7_raw_73 rfl (by decide) (by omega) (by omega) ?_
          have w10 : zR (s.2 11 T) := hR2.2 11 T
          refine z_iconst 1 dX7_raw_74 rfl ?_
          refine z_iadd dX7_raw_75 ?_
          refine z_iast dX7_raw_76 rfl (by decide) (by omega) (by omega) (by omega) ?_
          refine z_aload_0 dX7_raw_77 ?_
          refine z_iconst 0 dX7_raw_78 rfl ?_
          refine z_iload_2 dX7_raw_79 ?_
          refine z_bipush 12 dX7_raw_80 (by decide +kernel) ?_
          refine z_aload_0 dX7_raw_82 ?_
          refine z_getR (j := 15) dX7_raw_83 zf_X7_45 rfl rfl ?_
          refine z_iload_1 dX7_raw_86 ?_
          refine z_iald dX7_raw_87 rfl (by decide) (by omega) (by omega) ?_
          refine z_top (b := ((s.2 11 T) + 1)) zsA_eq ?_
          refine z_iconst 1 dX7_raw_88 rfl ?_
          refine z_isub dX7_raw_89 ?_
          refine z_callV mX7_keep [.int (zI 0), .int (zI (zst (zmr (s.2 9) T) (s.2 10 T) (s.2 11 T))), .int (zI 12), .int (zI (((s.2 11 T) + 1) - 1))] dX7_raw_90 zk_X7_keep zl_X7_142 ⟨Nat.le_of_ble_eq_true rfl, Nat.le_of_ble_eq_true rfl⟩ rfl rfl (Nat.le_of_ble_eq_true rfl) (Nat.le_of_ble_eq_true rfl) ?_
          refine M_X7_keepZ T hT0 hT6 (zeqE (b := s.1 0 10) zsA_F (by omega)) 0 (zst (zmr (s.2 9) T) (s.2 10 T) (s.2 11 T)) 12 (((s.2 11 T) + 1) - 1) (by omega) (by omega) (by omega) (by omega) (zgeE (b := s.1 0 19) zsA_F (by omega)) (zltE (b := s.1 0 19) zsA_F (by omega)) ?_
          refine z_b1 ?_
          refine z_top (b := s.1 0 19) zsA_F ?_
          refine z_iret dX7_raw_93 rfl ?_
          have hlt : s.2 11 T < s.2 10 T := zst_pos c54
          have ev : zst (zmr (s.2 9) T) (s.2 10 T) (s.2 11 T) = zmr (s.2 9) T (s.2 11 T) := zst_in hlv2.1 hlt
          rw [zraw_c hs hT hT0 hlt] at hz
          have hz2 := h (by omega)
          rw [← hz.1] at hz2
          rw [ev, show s.2 11 T + 1 - 1 = s.2 11 T by omega]
          exact hz2 _ hz.2
        · refine z_aload_0 dX7_raw_57 ?_
          refine z_getR (j := 16) dX7_raw_58 zf_X7_48 rfl rfl ?_
          refine z_iload_1 dX7_raw_61 ?_
          refine z_iconst (-1) dX7_raw_62 rfl ?_
          refine z_iast dX7_raw_63 rfl (by decide) (by omega) (by omega) ⟨by decide, by decide⟩ ?_
          refine z_bipush (-5) dX7_raw_64 (by decide +kernel) ?_
          refine z_iret dX7_raw_66 rfl ?_
          have hlt : s.2 10 T ≤ s.2 11 T := zst_neg (row := zmr (s.2 9) T) (fun q => sI.2.2.2.2.2.2.2.2.2.2.2.2.2.2.1 _) hlv2.1 c54
          rw [zraw_b hs hT hT0 hlt] at hz
          have hz2 := h (by omega)
          rw [← hz.1] at hz2
          exact hz2 _ hz.2
      · refine z_b1 ?_
        have t19 : s.1 0 19 = σ.1 0 19 := sto
        have t10 : s.1 0 10 ≤ σ.1 0 10 := sl1
        refine z_if_ne (tgt := 35) dX7_raw_29 (by decide) ⟨by decide, by decide⟩ (fun c29 => by exfalso; omega) (fun c29 => ?_)
        refine z_bipush (-3) dX7_raw_32 (by decide +kernel) ?_
        refine z_iret dX7_raw_34 rfl ?_
        rw [zraw_a hs h10] at hz
        have hz2 := h (by omega)
        rw [← hz.1] at hz2
        exact hz2 s hz.2
    · refine z_bipush (-4) dX7_raw_22 (by decide +kernel) ?_
      refine z_iret dX7_raw_24 rfl ?_
      exact zPq (h4 (by omega) (by omega)) rfl (eqM.jF (by unfold zJ; omega) eqM.rfl')

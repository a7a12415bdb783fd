theorem zJ0 : zJ 0 0 := by unfold zJ; omega
theorem zJ26 : zJ 0 26 := by unfold zJ; omega
theorem zJ27 : zJ 0 27 := by unfold zJ; omega
theorem zJ29 : zJ 0 29 := by unfold zJ; omega
theorem zN3 : ¬ zJ 0 3 := by unfold zJ; omega
theorem zN5 : ¬ zJ 0 5 := by unfold zJ; omega
theorem zN6 : ¬ zJ 0 6 := by unfold zJ; omega
theorem zN10 : ¬ zJ 0 10 := by unfold zJ; omega
theorem zN18 : ¬ zJ 0 18 := by unfold zJ; omega
theorem zN19 : ¬ zJ 0 19 := by unfold zJ; omega
theorem zN21 : ¬ zJ 0 21 := by unfold zJ; omega
theorem zN24 : ¬ zJ 0 24 := by unfold zJ; omega
noncomputable def zfnd (P : Int → Prop) : Nat → Int
  | 0 => -1
  | n + 1 => if 0 ≤ zfnd P n then zfnd P n else @ite Int (P n) (Classical.propDecidable (P n)) (n : Int) (-1)
theorem zfnd_none {P : Int → Prop} : ∀ (n : Nat), (∀ j : Int, 0 ≤ j → j < n → ¬ P j) → zfnd P n = -1
  | 0, _ => rfl
  | n + 1, h => by
    have e := zfnd_none n (fun j q0 q1 => h j q0 (by omega))
    rw [zfnd, e, if_neg (by decide)]
    exact if_neg (h n (by omega) (by omega))
theorem zfnd_some {P : Int → Prop} {j : Int} (h0 : 0 ≤ j) (hP : P j) (hi : ∀ i, 0 ≤ i → i < j → ¬ P i) : ∀ (n : Nat), j < n → zfnd P n = j
  | 0, h => by omega
  | n + 1, h => by
    by_cases hj : j < (n : Int)
    · rw [zfnd, zfnd_some h0 hP hi n hj, if_pos h0]
    · have e : (n : Int) = j := by omega
      rw [zfnd, zfnd_none n (fun i q0 q1 => hi i q0 (by omega)), if_neg (by decide), e]
      exact if_pos hP
noncomputable def zname (σ : zSt) (wl : Int) : Int × zSt :=
  if 0 ≤ zfnd (zisW σ wl) (σ.1 0 21).toNat then (zfnd (zisW σ wl) (σ.1 0 21).toNat, σ) else if σ.1 0 21 = 150 then (-1, σ) else (σ.1 0 21, zsF (zsA (zsB σ 15 (40 * σ.1 0 21) wl (σ.2 18)) 16 (σ.1 0 21) wl) 0 21 (σ.1 0 21 + 1))
theorem zname_a {σ : zSt} {wl j : Int} (h0 : 0 ≤ j) (hj : j < σ.1 0 21) (hP : zisW σ wl j) (hi : ∀ i, 0 ≤ i → i < j → ¬ zisW σ wl i) : zname σ wl = (j, σ) := by
  have e := zfnd_some h0 hP hi (σ.1 0 21).toNat (by omega)
  rw [zname, e, if_pos h0]
theorem zname_b {σ : zSt} {wl : Int} (hi : ∀ i, 0 ≤ i → i < σ.1 0 21 → ¬ zisW σ wl i) (hn : σ.1 0 21 = 150) : zname σ wl = (-1, σ) := by
  have e := zfnd_none (P := zisW σ wl) (σ.1 0 21).toNat (fun i q0 q1 => hi i q0 (by omega))
  rw [zname, e, if_neg (by decide), if_pos hn]
theorem zname_c {σ : zSt} {wl : Int} (hi : ∀ i, 0 ≤ i → i < σ.1 0 21 → ¬ zisW σ wl i) (hn : σ.1 0 21 ≠ 150) : zname σ wl = (σ.1 0 21, zsF (zsA (zsB σ 15 (40 * σ.1 0 21) wl (σ.2 18)) 16 (σ.1 0 21) wl) 0 21 (σ.1 0 21 + 1)) := by
  have e := zfnd_none (P := zisW σ wl) (σ.1 0 21).toNat (fun i q0 q1 => hi i q0 (by omega))
  rw [zname, e, if_neg (by decide), if_neg hn]
theorem M_X7_nameZ {G : zG} {σ : zSt} {Post : Option Value → zSt → Prop} (wl : Int) (hwl : σ.1 0 29 = wl) (hna0 : 0 ≤ σ.1 0 21) (hna1 : σ.1 0 21 ≤ 150) (hw0 : 0 ≤ wl) (hw1 : wl ≤ 40) (hnl : ∀ q, 0 ≤ σ.2 16 q ∧ σ.2 16 q ≤ 40) (h : Post (some (.int (zI (zname σ wl).1))) (zname σ wl).2) : zV G shM mX7_nameOfWord 0 (zini 4 [.ref (zad G 0)]) [] σ Post := by
  subst hwl
  refine M_X7_nameOfWord hna0 hna1 hw0 hw1 hnl (fun j q0 q1 q2 q3 => ?_) (fun q0 q1 => ?_) (fun q0 q1 => ?_)
  · rw [zname_a q0 q1 q2 q3] at h; exact h
  · rw [zname_c q0 (by omega)] at h; exact h
  · rw [zname_b q0 q1] at h; exact h
theorem eqM_name {a b : zSt} (h : eqM a b) (wl : Int) : (zname a wl).1 = (zname b wl).1 ∧ eqM (zname a wl).2 (zname b wl).2 := by
  have h1 : a.1 0 21 = b.1 0 21 := h.1 0 21 (by unfold zJ; omega)
  have h2 : zisW a wl = zisW b wl := by unfold zisW; rw [h.2 15, h.2 16, h.2 18]
  unfold zname
  rw [h1, h2, h.2 18]
  split
  · exact ⟨rfl, h⟩
  · split
    · exact ⟨rfl, h⟩
    · exact ⟨rfl, (h.B.A).F⟩
def zkeep (σ : zSt) (T k v c p : Int) : zSt := zsF (zpt σ 14 (6 * σ.1 0 19) k v c (σ.2 7 T) (σ.2 8 T) p) 0 19 (σ.1 0 19 + 1)
theorem eqM_keep {a b : zSt} {T k v c p : Int} (h : eqM a b) : eqM (zkeep a T k v c p) (zkeep b T k v c p) := by
  have h1 : a.1 0 19 = b.1 0 19 := h.1 0 19 (by unfold zJ; omega)
  unfold zkeep zpt
  rw [h1, h.2 7, h.2 8]
  exact ((((((h.A).A).A).A).A).A).F
theorem M_X7_keepZ {G : zG} {σ : zSt} {Post : Option Value → zSt → Prop} (T : Int) (hT0 : 0 ≤ T) (hT6 : T < 6) (hT : σ.1 0 10 = T + 1) (k v c p : Int) (hk : zR k) (hv : zR v) (hc : zR c) (hp : zR p) (hs0 : 0 ≤ σ.1 0 19) (hs : σ.1 0 19 < 600) (h : Post (some (.int (zI (σ.1 0 19)))) (zkeep σ T k v c p)) : zV G shM mX7_keep 0 (zini 6 [.ref (zad G 0), .int (zI k), .int (zI v), .int (zI c), .int (zI p)]) [] σ Post := M_X7_keep T hT0 hT6 hT k v c p hk hv hc hp hs0 hs h
def zgr (cats row : Int → Int) (len pl : Int) : Int × Int := zsee cats row len len.toNat (zst row len pl) (pl + 1)
def zgwd (σ : zSt) (T : Int) : List Int × Int × Int := zword (σ.2 1) (zmr (σ.2 9) T) (σ.2 10 T) (zgr (σ.2 1) (zmr (σ.2 9) T) (σ.2 10 T) (σ.2 11 T)).2
noncomputable def zgv0 (σ : zSt) (T : Int) : Int × zSt :=
  if (zname (zsA (zrw (zsA σ 11 T (zgr (σ.2 1) (zmr (σ.2 9) T) (σ.2 10 T) (σ.2 11 T)).2) T (zgwd σ T)) 11 T (zgwd σ T).2.1) (zdl ((zgwd σ T).1.length : Int))).1 < 0 then (-4, (zname (zsA (zrw (zsA σ 11 T (zgr (σ.2 1) (zmr (σ.2 9) T) (σ.2 10 T) (σ.2 11 T)).2) T (zgwd σ T)) 11 T (zgwd σ T).2.1) (zdl ((zgwd σ T).1.length : Int))).2)
  else (σ.1 0 19, zkeep (zname (zsA (zrw (zsA σ 11 T (zgr (σ.2 1) (zmr (σ.2 9) T) (σ.2 10 T) (σ.2 11 T)).2) T (zgwd σ T)) 11 T (zgwd σ T).2.1) (zdl ((zgwd σ T).1.length : Int))).2 T 1 (zname (zsA (zrw (zsA σ 11 T (zgr (σ.2 1) (zmr (σ.2 9) T) (σ.2 10 T) (σ.2 11 T)).2) T (zgwd σ T)) 11 T (zgwd σ T).2.1) (zdl ((zgwd σ T).1.length : Int))).1 0 (σ.2 11 T))
noncomputable def zgive1 (σ : zSt) (T : Int) (r : Int × Int) (c : Int) : Int × zSt :=
  if c = 0 then zgv0 σ T
  else if c = 5 then (if σ.2 12 T = 0 then (σ.1 0 19, zkeep (zsA (zsA σ 11 T r.2) 12 T (-1)) T 1 0 0 (σ.2 11 T)) else if σ.2 12 T = 1 then (σ.1 0 19, zkeep (zsA (zsA σ 11 T r.2) 12 T (-1)) T 0 32 10 (σ.2 11 T)) else (-1, zsA (zsA σ 11 T r.2) 12 T (-1)))
  else if c = 9 then (-1, zsA σ 11 T r.2)
  else if c = 10 then (if σ.2 12 T = 1 then (σ.1 0 19, zkeep (zsA (zsA σ 11 T r.2) 12 T 2) T 0 32 10 (σ.2 11 T)) else (-1, zsA (zsA σ 11 T r.2) 12 T (σ.2 12 T)))
  else if c = 14 then (-1, zsA (zsA σ 11 T r.2) 12 T (-1))
  else if c = 15 then (-1, ztell (zsA σ 11 T r.2) 1 r.1)
  else if c = 13 then (if σ.2 3 r.1 = 0 then (σ.1 0 19, zkeep (ztell (zsA (zsA σ 11 T r.2) 12 T 1) 2 r.1) T 2 r.1 c (σ.2 11 T)) else (σ.1 0 19, zkeep (zsA (zsA σ 11 T r.2) 12 T 1) T 2 r.1 c (σ.2 11 T)))
  else (σ.1 0 19, zkeep (zsA (zsA σ 11 T r.2) 12 T 1) T 0 r.1 c (σ.2 11 T))
noncomputable def zgive (σ : zSt) (T : Int) : Int × zSt := zgive1 σ T (zgr (σ.2 1) (zmr (σ.2 9) T) (σ.2 10 T) (σ.2 11 T)) (σ.2 1 (zgr (σ.2 1) (zmr (σ.2 9) T) (σ.2 10 T) (σ.2 11 T)).1)

theorem eqM_rw {a b : zSt} {T : Int} {w : List Int × Int × Int} (h : eqM a b) : eqM (zrw a T w) (zrw b T w) := by
  unfold zrw
  split
  · exact (eqM_tell (eqM_wr _ _ _ _ h)).A
  · exact (eqM_wr _ _ _ _ h).A
theorem zrw_F {σ : zSt} {T : Int} {w : List Int × Int × Int} {i j : Nat} (h : ¬ (i = 0 ∧ j = 24)) : (zrw σ T w).1 i j = σ.1 i j := by
  unfold zrw
  show (if 40 < (w.1.length : Int) then ztell (zwr 18 σ 0 w.1) 3 0 else zwr 18 σ 0 w.1).1 i j = σ.1 i j
  split
  · rw [ztell_F h, zwr_F]
  · rw [zwr_F]
theorem zrw_A {σ : zSt} {T : Int} {w : List Int × Int × Int} {i : Nat} (h : i ≠ 12 ∧ i ≠ 17 ∧ i ≠ 18) : (zrw σ T w).2 i = σ.2 i := by
  unfold zrw
  rw [zsA_arr h.1]
  split
  · rw [ztell_A h.2.1, zwr_A h.2.2]
  · rw [zwr_A h.2.2]
theorem zname_F {σ : zSt} {wl : Int} {i j : Nat} (h : ¬ (i = 0 ∧ j = 21)) : (zname σ wl).2.1 i j = σ.1 i j := by
  unfold zname
  split
  · rfl
  · split
    · rfl
    · exact zsF_ne h
theorem zname_A {σ : zSt} {wl : Int} {i : Nat} (h : i ≠ 15 ∧ i ≠ 16) : (zname σ wl).2.2 i = σ.2 i := by
  unfold zname
  split
  · rfl
  · split
    · rfl
    · exact (zsA_arr h.2).trans (zsB_arr h.1)
theorem zfnd_rg (P : Int → Prop) : ∀ n : Nat, -1 ≤ zfnd P n ∧ zfnd P n < n
  | 0 => ⟨by rw [zfnd]; omega, by rw [zfnd]; omega⟩
  | n + 1 => by
    have := zfnd_rg P n
    rw [zfnd]
    split
    · omega
    · split <;> omega
theorem zname_rg {σ : zSt} {wl : Int} (h0 : 0 ≤ σ.1 0 21) : -1 ≤ (zname σ wl).1 ∧ (zname σ wl).1 ≤ σ.1 0 21 := by
  have := zfnd_rg (zisW σ wl) (σ.1 0 21).toNat
  unfold zname
  split
  · dsimp only; omega
  · split
    · dsimp only; omega
    · dsimp only; omega
theorem zlets_rg {cats row : Int → Int} {len : Int} (hr : ∀ q, 0 ≤ row q ∧ row q ≤ 255) : ∀ (m : Nat) (p : Int), 0 ≤ p → p ≤ len → (∀ s ∈ (zlets cats row len m p).1, 0 ≤ s ∧ s ≤ 255) ∧ p ≤ (zlets cats row len m p).2 ∧ (zlets cats row len m p).2 ≤ len
  | 0, p, h0, h1 => ⟨fun s hs => by simp [zlets] at hs, Int.le_refl _, h1⟩
  | m + 1, p, h0, h1 => by
    rw [zlets]
    split
    next hz =>
      have hq := zst_lt hz
      have hv := zst_R2 hr len p
      have hs := zsee_rg (cats := cats) (row := row) (len := len) hr len.toNat (zst row len p) (p + 1) (by omega) (by omega) (by omega) (by omega)
      split
      · have ih := zlets_rg (cats := cats) (len := len) hr m (zsee cats row len len.toNat (zst row len p) (p + 1)).2 (by omega) (by omega)
        refine ⟨fun s hs' => ?_, by dsimp only; omega, ih.2.2⟩
        rcases List.mem_cons.mp hs' with e | e
        · rw [e]; omega
        · exact ih.1 s e
      · exact ⟨fun s hs => by simp at hs, Int.le_refl _, h1⟩
    next => exact ⟨fun s hs => by simp at hs, Int.le_refl _, h1⟩
theorem zword_rg {cats row : Int → Int} {len p : Int} (hr : ∀ q, 0 ≤ row q ∧ row q ≤ 255) (h0 : 0 ≤ p) (h1 : p ≤ len) (h2 : len ≤ 121) : (∀ s ∈ (zword cats row len p).1, 0 ≤ s ∧ s ≤ 255) ∧ p ≤ (zword cats row len p).2.1 ∧ (zword cats row len p).2.1 ≤ len ∧ ((zword cats row len p).2.2 = 1 ∨ (zword cats row len p).2.2 = 2) ∧ (zword cats row len p).1.length ≤ 121 := by
  unfold zword
  split
  next hz =>
    have hq := zst_lt hz
    have hv := zst_R2 hr len p
    have hs := zsee_rg (cats := cats) (row := row) (len := len) hr len.toNat (zst row len p) (p + 1) (by omega) (by omega) (by omega) (by omega)
    split
    · have a := zlets_rg (cats := cats) hr (len - p).toNat p h0 h1
      have b := zlets_len (cats := cats) (row := row) (len := len) (len - p).toNat p
      exact ⟨a.1, a.2.1, a.2.2, Or.inr rfl, by dsimp only; omega⟩
    · refine ⟨fun s hs' => ?_, by dsimp only; omega, by dsimp only; omega, ?_, by simp⟩
      · rw [List.mem_singleton] at hs'; rw [hs']; omega
      · dsimp only; split
        · exact Or.inr rfl
        · exact Or.inl rfl
  next => exact ⟨fun s hs => by simp at hs, Int.le_refl _, h1, Or.inl rfl, by simp⟩
theorem N2_X7_see {G : zG} {σ : zSt} {Post : Option Value → zSt → Prop} (T : Int) (hT0 : 0 ≤ T) (hT6 : T < 6) (hT : σ.1 0 10 = T + 1) (cats row : Int → Int) (len z : Int) (r : Int × Int) (hr : zgr cats row len z = r) (hc : σ.2 1 = cats) (hrow : zmr (σ.2 9) T = row) (hln : σ.2 10 T = len) (hz0 : 0 ≤ z) (hz : z < len) (hl : len ≤ 121) (hrow0 : ∀ q, 0 ≤ row q ∧ row q ≤ 255) (h : Post none (zsF (zsF σ 0 26 r.1) 0 27 (r.2 - z))) : zV G shM mX7_see 0 (zini 4 [.ref (zad G 0), .int (zI z)]) [] σ Post := by
  subst hr
  exact N_X7_see T hT0 hT6 hT cats row len z hc hrow hln hz0 hz hl hrow0 h
theorem N2_X7_readWord {G : zG} {σ : zSt} {Post : Option Value → zSt → Prop} (T : Int) (hT0 : 0 ≤ T) (hT6 : T < 6) (hT : σ.1 0 10 = T + 1) (cats row : Int → Int) (len fr : Int) (w : List Int × Int × Int) (hw : zword cats row len fr = w) (hc : σ.2 1 = cats) (hrow : zmr (σ.2 9) T = row) (hln : σ.2 10 T = len) (hl : len ≤ 121) (hrow0 : ∀ q, 0 ≤ row q ∧ row q ≤ 255) (hf0 : 0 ≤ fr) (hf : fr ≤ len) (hs0 : 0 ≤ σ.1 0 24) (hs : σ.1 0 24 < 2147483647) (h : ∀ σ2, eqM σ2 (zrw σ T w) → σ2.1 0 29 = zdl (w.1.length : Int) → Post (some (.int (zI w.2.1))) σ2) : zV G shM mX7_readWord 0 (zini 6 [.ref (zad G 0), .int (zI fr)]) [] σ Post := by
  subst hw
  exact M_X7_readWord T hT0 hT6 hT cats row len fr hc hrow hln hl hrow0 hf0 hf hs0 hs h
theorem N2_X7_name {G : zG} {σ : zSt} {Post : Option Value → zSt → Prop} (wl : Int) (n : Int × zSt) (hn : zname σ wl = n) (hwl : σ.1 0 29 = wl) (hna0 : 0 ≤ σ.1 0 21) (hna1 : σ.1 0 21 ≤ 150) (hw0 : 0 ≤ wl) (hw1 : wl ≤ 40) (hnl : ∀ q, 0 ≤ σ.2 16 q ∧ σ.2 16 q ≤ 40) (h : Post (some (.int (zI n.1))) n.2) : zV G shM mX7_nameOfWord 0 (zini 4 [.ref (zad G 0)]) [] σ Post := by
  subst hn
  exact M_X7_nameZ wl hwl hna0 hna1 hw0 hw1 hnl h

set_option maxRecDepth 100000 in
theorem M_X7_give {G : zG} {σ : zSt} {Post : Option Value → zSt → Prop} (T : Int) (hT0 : 0 ≤ T) (hT6 : T < 6) (hT : σ.1 0 10 = T + 1) (hl : σ.2 10 T ≤ 121) (hp0 : 0 ≤ σ.2 11 T) (hpl : σ.2 11 T < σ.2 10 T) (hrw : ∀ q, 0 ≤ σ.2 9 q ∧ σ.2 9 q ≤ 255) (hs0 : 0 ≤ σ.1 0 24) (hs : σ.1 0 24 ≤ 2000000000) (hto0 : 0 ≤ σ.1 0 19) (hto : σ.1 0 19 < 600) (hna0 : 1 ≤ σ.1 0 21) (hna1 : σ.1 0 21 ≤ 150) (hnl : ∀ q, 0 ≤ σ.2 16 q ∧ σ.2 16 q ≤ 40) (hst : -1 ≤ σ.2 12 T ∧ σ.2 12 T ≤ 2) (h : ∀ σ2, eqM σ2 (zgive σ T).2 → Post (some (.int (zI (zgive σ T).1))) σ2) : zV G shM mX7_give 0 (zini 7 [.ref (zad G 0)]) [] σ Post := by
  refine z_rg (fun hR => ?_)
  refine z_lv (lv' := [some (.ref (zad G 0)), none, none, none, none, none, none]) rfl ?_
  have hc : σ.2 1 = σ.2 1 := rfl
  have hrow : zmr (σ.2 9) T = zmr (σ.2 9) T := rfl
  have hln : σ.2 10 T = σ.2 10 T := rfl
  have hrow0 : ∀ q, 0 ≤ zmr (σ.2 9) T q ∧ zmr (σ.2 9) T q ≤ 255 := fun q => hrw _
  have hpv := zst_R2 hrow0 (σ.2 10 T) (σ.2 11 T)
  have hpi : zst (zmr (σ.2 9) T) (σ.2 10 T) (σ.2 11 T) = zmr (σ.2 9) T (σ.2 11 T) := zst_in hp0 hpl
  have hpw := hrow0 (σ.2 11 T)
  have hrg := zsee_rg (cats := σ.2 1) (row := zmr (σ.2 9) T) (len := σ.2 10 T) hrow0 (σ.2 10 T).toNat (zst (zmr (σ.2 9) T) (σ.2 10 T) (σ.2 11 T)) (σ.2 11 T + 1) (by omega) (by omega) (by omega) (by omega)
  obtain ⟨r, hr⟩ : ∃ r, zgr (σ.2 1) (zmr (σ.2 9) T) (σ.2 10 T) (σ.2 11 T) = r := ⟨_, rfl⟩
  have hr' := hr
  rw [zgr] at hr'
  rw [hr'] at hrg
  have hg : zgive σ T = zgive1 σ T r (σ.2 1 r.1) := by rw [zgive, hr]
  rw [hg] at h
  obtain ⟨w, hw⟩ : ∃ w, zword (σ.2 1) (zmr (σ.2 9) T) (σ.2 10 T) r.2 = w := ⟨_, rfl⟩
  have hwd : zgwd σ T = w := by rw [zgwd, hr, hw]
  have hwr := zword_rg (cats := σ.2 1) (p := r.2) hrow0 (by omega) hrg.2.2.2 hl
  rw [hw] at hwr
  obtain ⟨hwr1, hwr2, hwr3, hwr4, hwr5⟩ := hwr
  refine z_aload_0 dX7_give_0 ?_
  refine z_getI (j := 10) dX7_give_1 zf_X7_90 rfl rfl ?_
  have w1 : zR (σ.1 0 10) := hR.1 0 10
  refine z_iconst 1 dX7_give_4 rfl ?_
  refine z_isub dX7_give_5 ?_
  refine z_top (b := T) (by omega) ?_
  refine z_istore_1 dX7_give_6 (Nat.le_of_ble_eq_true rfl) rfl ?_
  refine z_aload_0 dX7_give_7 ?_
  refine z_getR (j := 15) dX7_give_8 zf_X7_45 rfl rfl ?_
  refine z_iload_1 dX7_give_11 ?_
  refine z_iald dX7_give_12 rfl (by decide) (by omega) (by omega) ?_
  have w2 : zR (σ.2 11 T) := hR.2 11 T
  refine z_istore_2 dX7_give_13 (Nat.le_of_ble_eq_true rfl) rfl ?_
  refine z_aload_0 dX7_give_14 ?_
  refine z_iload_2 dX7_give_15 ?_
  refine z_callV mX7_see [.int (zI (σ.2 11 T))] dX7_give_16 zk_X7_see zl_X7_125 ⟨Nat.le_of_ble_eq_true rfl, Nat.le_of_ble_eq_true rfl⟩ rfl rfl (Nat.le_of_ble_eq_true rfl) (Nat.le_of_ble_eq_true rfl) ?_
  refine N2_X7_see T hT0 hT6 (by omega) (σ.2 1) (zmr (σ.2 9) T) (σ.2 10 T) (σ.2 11 T) r hr hc hrow hln (by omega) (by omega) (by omega) hrow0 ?_
  refine z_b0 ?_
  refine z_aload_0 dX7_give_19 ?_
  refine z_getI (j := 26) dX7_give_20 zf_X7_104 rfl rfl ?_
  refine z_top (b := r.1) ((zsF_ne (by omega)).trans zsF_eq) ?_
  refine z_istore_3 dX7_give_23 (Nat.le_of_ble_eq_true rfl) rfl ?_
  refine z_aload_0 dX7_give_24 ?_
  refine z_getR (j := 1) dX7_give_25 zf_X7_7 rfl rfl ?_
  refine z_iload_3 dX7_give_28 ?_
  refine z_iald dX7_give_29 rfl (by decide) (by omega) (by omega) ?_
  refine z_top (b := σ.2 1 r.1) (zsF_A.trans zsF_A) ?_
  have w3 : zR (σ.2 1 r.1) := hR.2 1 r.1
  refine z_istore_4 dX7_give_30 (Nat.le_of_ble_eq_true rfl) rfl ?_
  refine z_aload_0 dX7_give_32 ?_
  refine z_getR (j := 16) dX7_give_33 zf_X7_48 rfl rfl ?_
  refine z_iload_1 dX7_give_36 ?_
  refine z_iald dX7_give_37 rfl (by decide) (by omega) (by omega) ?_
  refine z_top (b := σ.2 12 T) (zsF_A.trans zsF_A) ?_
  have w4 : zR (σ.2 12 T) := hR.2 12 T
  refine z_istore_5 dX7_give_38 (Nat.le_of_ble_eq_true rfl) rfl ?_
  refine z_aload_0 dX7_give_40 ?_
  refine z_getR (j := 15) dX7_give_41 zf_X7_45 rfl rfl ?_
  refine z_iload_1 dX7_give_44 ?_
  refine z_iload_2 dX7_give_45 ?_
  refine z_aload_0 dX7_give_46 ?_
  refine z_getI (j := 27) dX7_give_47 zf_X7_107 rfl rfl ?_
  refine z_top (b := (r.2 - (σ.2 11 T))) zsF_eq ?_
  refine z_iadd dX7_give_50 ?_
  refine z_top (b := r.2) (by omega) ?_
  refine z_iast dX7_give_51 rfl (by decide) (by omega) (by omega) (by omega) ?_
  refine z_iload_4 dX7_give_52 ?_
  refine z_if_ne (tgt := 99) dX7_give_54 (by decide) (by omega) (fun c54 => ?_) (fun c54 => ?_)
  · refine z_iload_4 dX7_give_99 ?_
    refine z_iconst 5 dX7_give_101 rfl ?_
    refine z_icmp_ne (tgt := 149) dX7_give_102 (by decide) (by omega) ⟨by decide, by decide⟩ (fun c102 => ?_) (fun c102 => ?_)
    · refine z_iload_4 dX7_give_149 ?_
      refine z_bipush 9 dX7_give_151 (by decide +kernel) ?_
      refine z_icmp_ne (tgt := 158) dX7_give_153 (by decide) (by omega) ⟨by decide, by decide⟩ (fun c153 => ?_) (fun c153 => ?_)
      · refine z_iload_4 dX7_give_158 ?_
        refine z_bipush 10 dX7_give_160 (by decide +kernel) ?_
        refine z_icmp_ne (tgt := 204) dX7_give_162 (by decide) (by omega) ⟨by decide, by decide⟩ (fun c162 => ?_) (fun c162 => ?_)
        · refine z_iload_4 dX7_give_204 ?_
          refine z_bipush 14 dX7_give_206 (by decide +kernel) ?_
          refine z_icmp_ne (tgt := 220) dX7_give_208 (by decide) (by omega) ⟨by decide, by decide⟩ (fun c208 => ?_) (fun c208 => ?_)
          · refine z_iload_4 dX7_give_220 ?_
            refine z_bipush 15 dX7_give_222 (by decide +kernel) ?_
            refine z_icmp_ne (tgt := 235) dX7_give_224 (by decide) (by omega) ⟨by decide, by decide⟩ (fun c224 => ?_) (fun c224 => ?_)
            · refine z_aload_0 dX7_give_235 ?_
              refine z_getR (j := 16) dX7_give_236 zf_X7_48 rfl rfl ?_
              refine z_iload_1 dX7_give_239 ?_
              refine z_iconst 1 dX7_give_240 rfl ?_
              refine z_iast dX7_give_241 rfl (by decide) (by omega) (by omega) ⟨by decide, by decide⟩ ?_
              refine z_iload_4 dX7_give_242 ?_
              refine z_bipush 13 dX7_give_244 (by decide +kernel) ?_
              refine z_icmp_ne (tgt := 264) dX7_give_246 (by decide) (by omega) ⟨by decide, by decide⟩ (fun c246 => ?_) (fun c246 => ?_)
              · refine z_aload_0 dX7_give_264 ?_
                refine z_iload_4 dX7_give_265 ?_
                refine z_bipush 13 dX7_give_267 (by decide +kernel) ?_
                refine z_icmp_ne (tgt := 276) dX7_give_269 (by decide) (by omega) ⟨by decide, by decide⟩ (fun c269 => ?_) (fun c269 => by exfalso; omega)
                refine z_iconst 0 dX7_give_276 rfl ?_
                refine z_iload_3 dX7_give_277 ?_
                refine z_iload_4 dX7_give_278 ?_
                refine z_iload_2 dX7_give_280 ?_
                refine z_callV mX7_keep [.int (zI 0), .int (zI r.1), .int (zI (σ.2 1 r.1)), .int (zI (σ.2 11 T))] dX7_give_281 zk_X7_keep zl_X7_142 ⟨Nat.le_of_ble_eq_true rfl, Nat.le_of_ble_eq_true rfl⟩ rfl rfl (Nat.le_of_ble_eq_true rfl) (Nat.le_of_ble_eq_true rfl) ?_
                refine M_X7_keepZ T hT0 hT6 (zeqE (b := σ.1 0 10) (zsA_F.trans (zsA_F.trans ((zsF_ne (by omega)).trans (zsF_ne (by omega))))) (by omega)) 0 r.1 (σ.2 1 r.1) (σ.2 11 T) (by omega) (by omega) (by omega) (by omega) (zgeE (b := σ.1 0 19) (zsA_F.trans (zsA_F.trans ((zsF_ne (by omega)).trans (zsF_ne (by omega))))) (by omega)) (zltE (b := σ.1 0 19) (zsA_F.trans (zsA_F.trans ((zsF_ne (by omega)).trans (zsF_ne (by omega))))) (by omega)) ?_
                refine z_b1 ?_
                refine z_top (b := σ.1 0 19) (zsA_F.trans (zsA_F.trans ((zsF_ne (by omega)).trans (zsF_ne (by omega))))) ?_
                refine z_iret dX7_give_284 rfl ?_
                rw [zgive1, if_neg c54, if_neg c102, if_neg c153, if_neg c162, if_neg c208, if_neg c224, if_neg c246] at h
                exact h (zkeep (zsA (zsA (zsF (zsF σ 0 26 r.1) 0 27 (r.2 - (σ.2 11 T))) 11 T r.2) 12 T 1) T 0 r.1 (σ.2 1 r.1) (σ.2 11 T)) (eqM_keep (eqM.A (eqM.A (eqM.jF zJ27 (eqM.jF zJ26 eqM.rfl')))))
              · refine z_aload_0 dX7_give_249 ?_
                refine z_getR (j := 4) dX7_give_250 zf_X7_16 rfl rfl ?_
                refine z_iload_3 dX7_give_253 ?_
                refine z_zald dX7_give_254 rfl (by decide) (by omega) (by omega) ?_
                refine z_top (b := σ.2 3 r.1) ((zsA_ne1 (by omega)).trans ((zsA_ne1 (by omega)).trans (zsF_A.trans zsF_A))) ?_
                have w5 : zR (σ.2 3 r.1) := hR.2 3 r.1
                refine z_if_ne (tgt := 264) dX7_give_255 (by decide) (by omega) (fun c255 => ?_) (fun c255 => ?_)
                · refine z_aload_0 dX7_give_264 ?_
                  refine z_iload_4 dX7_give_265 ?_
                  refine z_bipush 13 dX7_give_267 (by decide +kernel) ?_
                  refine z_icmp_ne (tgt := 276) dX7_give_269 (by decide) (by omega) ⟨by decide, by decide⟩ (fun c269 => by exfalso; omega) (fun c269 => ?_)
                  refine z_iconst 2 dX7_give_272 rfl ?_
                  refine z_goto (tgt := 277) dX7_give_273 (by decide) ?_
                  refine z_iload_3 dX7_give_277 ?_
                  refine z_iload_4 dX7_give_278 ?_
                  refine z_iload_2 dX7_give_280 ?_
                  refine z_callV mX7_keep [.int (zI 2), .int (zI r.1), .int (zI (σ.2 1 r.1)), .int (zI (σ.2 11 T))] dX7_give_281 zk_X7_keep zl_X7_142 ⟨Nat.le_of_ble_eq_true rfl, Nat.le_of_ble_eq_true rfl⟩ rfl rfl (Nat.le_of_ble_eq_true rfl) (Nat.le_of_ble_eq_true rfl) ?_
                  refine M_X7_keepZ T hT0 hT6 (zeqE (b := σ.1 0 10) (zsA_F.trans (zsA_F.trans ((zsF_ne (by omega)).trans (zsF_ne (by omega))))) (by omega)) 2 r.1 (σ.2 1 r.1) (σ.2 11 T) (by omega) (by omega) (by omega) (by omega) (zgeE (b := σ.1 0 19) (zsA_F.trans (zsA_F.trans ((zsF_ne (by omega)).trans (zsF_ne (by omega))))) (by omega)) (zltE (b := σ.1 0 19) (zsA_F.trans (zsA_F.trans ((zsF_ne (by omega)).trans (zsF_ne (by omega))))) (by omega)) ?_
                  refine z_b1 ?_
                  refine z_top (b := σ.1 0 19) (zsA_F.trans (zsA_F.trans ((zsF_ne (by omega)).trans (zsF_ne (by omega))))) ?_
                  refine z_iret dX7_give_284 rfl ?_
                  rw [zgive1, if_neg c54, if_neg c102, if_neg c153, if_neg c162, if_neg c208, if_neg c224, if_pos c246, if_neg c255] at h
                  exact h (zkeep (zsA (zsA (zsF (zsF σ 0 26 r.1) 0 27 (r.2 - (σ.2 11 T))) 11 T r.2) 12 T 1) T 2 r.1 (σ.2 1 r.1) (σ.2 11 T)) (eqM_keep (eqM.A (eqM.A (eqM.jF zJ27 (eqM.jF zJ26 eqM.rfl')))))
                · refine z_aload_0 dX7_give_258 ?_
                  refine z_iconst 2 dX7_give_259 rfl ?_
                  refine z_iload_3 dX7_give_260 ?_
                  refine z_callV mX7_tell [.int (zI 2), .int (zI r.1)] dX7_give_261 zk_X7_tell zl_X7_132 ⟨Nat.le_of_ble_eq_true rfl, Nat.le_of_ble_eq_true rfl⟩ rfl rfl (Nat.le_of_ble_eq_true rfl) (Nat.le_of_ble_eq_true rfl) ?_
                  refine M_X7_tellZ 2 r.1 (by omega) (by omega) (zgeE (b := σ.1 0 24) (zsA_F.trans (zsA_F.trans ((zsF_ne (by omega)).trans (zsF_ne (by omega))))) (by omega)) (zltE (b := σ.1 0 24) (zsA_F.trans (zsA_F.trans ((zsF_ne (by omega)).trans (zsF_ne (by omega))))) (by omega)) ?_
                  refine z_b0 ?_
                  refine z_aload_0 dX7_give_264 ?_
                  refine z_iload_4 dX7_give_265 ?_
                  refine z_bipush 13 dX7_give_267 (by decide +kernel) ?_
                  refine z_icmp_ne (tgt := 276) dX7_give_269 (by decide) (by omega) ⟨by decide, by decide⟩ (fun c269 => by exfalso; omega) (fun c269 => ?_)
                  refine z_iconst 2 dX7_give_272 rfl ?_
                  refine z_goto (tgt := 277) dX7_give_273 (by decide) ?_
                  refine z_iload_3 dX7_give_277 ?_
                  refine z_iload_4 dX7_give_278 ?_
                  refine z_iload_2 dX7_give_280 ?_
                  refine z_callV mX7_keep [.int (zI 2), .int (zI r.1), .int (zI (σ.2 1 r.1)), .int (zI (σ.2 11 T))] dX7_give_281 zk_X7_keep zl_X7_142 ⟨Nat.le_of_ble_eq_true rfl, Nat.le_of_ble_eq_true rfl⟩ rfl rfl (Nat.le_of_ble_eq_true rfl) (Nat.le_of_ble_eq_true rfl) ?_
                  refine M_X7_keepZ T hT0 hT6 (zeqE (b := σ.1 0 10) ((ztell_F (by omega)).trans (zsA_F.trans (zsA_F.trans ((zsF_ne (by omega)).trans (zsF_ne (by omega)))))) (by omega)) 2 r.1 (σ.2 1 r.1) (σ.2 11 T) (by omega) (by omega) (by omega) (by omega) (zgeE (b := σ.1 0 19) ((ztell_F (by omega)).trans (zsA_F.trans (zsA_F.trans ((zsF_ne (by omega)).trans (zsF_ne (by omega)))))) (by omega)) (zltE (b := σ.1 0 19) ((ztell_F (by omega)).trans (zsA_F.trans (zsA_F.trans ((zsF_ne (by omega)).trans (zsF_ne (by omega)))))) (by omega)) ?_
                  refine z_b1 ?_
                  refine z_top (b := σ.1 0 19) ((ztell_F (by omega)).trans (zsA_F.trans (zsA_F.trans ((zsF_ne (by omega)).trans (zsF_ne (by omega)))))) ?_
                  refine z_iret dX7_give_284 rfl ?_
                  rw [zgive1, if_neg c54, if_neg c102, if_neg c153, if_neg c162, if_neg c208, if_neg c224, if_pos c246, if_pos c255] at h
                  exact h (zkeep (ztell (zsA (zsA (zsF (zsF σ 0 26 r.1) 0 27 (r.2 - (σ.2 11 T))) 11 T r.2) 12 T 1) 2 r.1) T 2 r.1 (σ.2 1 r.1) (σ.2 11 T)) (eqM_keep (eqM_tell (eqM.A (eqM.A (eqM.jF zJ27 (eqM.jF zJ26 eqM.rfl'))))))
            · refine z_aload_0 dX7_give_227 ?_
              refine z_iconst 1 dX7_give_228 rfl ?_
              refine z_iload_3 dX7_give_229 ?_
              refine z_callV mX7_tell [.int (zI 1), .int (zI r.1)] dX7_give_230 zk_X7_tell zl_X7_132 ⟨Nat.le_of_ble_eq_true rfl, Nat.le_of_ble_eq_true rfl⟩ rfl rfl (Nat.le_of_ble_eq_true rfl) (Nat.le_of_ble_eq_true rfl) ?_
              refine M_X7_tellZ 1 r.1 (by omega) (by omega) (zgeE (b := σ.1 0 24) (zsA_F.trans ((zsF_ne (by omega)).trans (zsF_ne (by omega)))) (by omega)) (zltE (b := σ.1 0 24) (zsA_F.trans ((zsF_ne (by omega)).trans (zsF_ne (by omega)))) (by omega)) ?_
              refine z_b0 ?_
              refine z_iconst (-1) dX7_give_233 rfl ?_
              refine z_iret dX7_give_234 rfl ?_
              rw [zgive1, if_neg c54, if_neg c102, if_neg c153, if_neg c162, if_neg c208, if_pos c224] at h
              exact h (ztell (zsA (zsF (zsF σ 0 26 r.1) 0 27 (r.2 - (σ.2 11 T))) 11 T r.2) 1 r.1) (eqM_tell (eqM.A (eqM.jF zJ27 (eqM.jF zJ26 eqM.rfl'))))
          · refine z_aload_0 dX7_give_211 ?_
            refine z_getR (j := 16) dX7_give_212 zf_X7_48 rfl rfl ?_
            refine z_iload_1 dX7_give_215 ?_
            refine z_iconst (-1) dX7_give_216 rfl ?_
            refine z_iast dX7_give_217 rfl (by decide) (by omega) (by omega) ⟨by decide, by decide⟩ ?_
            refine z_iconst (-1) dX7_give_218 rfl ?_
            refine z_iret dX7_give_219 rfl ?_
            rw [zgive1, if_neg c54, if_neg c102, if_neg c153, if_neg c162, if_pos c208] at h
            exact h (zsA (zsA (zsF (zsF σ 0 26 r.1) 0 27 (r.2 - (σ.2 11 T))) 11 T r.2) 12 T (-1)) (eqM.A (eqM.A (eqM.jF zJ27 (eqM.jF zJ26 eqM.rfl'))))
        · refine z_aload_0 dX7_give_165 ?_
          refine z_getR (j := 16) dX7_give_166 zf_X7_48 rfl rfl ?_
          refine z_iload_1 dX7_give_169 ?_
          refine z_iload_5 dX7_give_170 ?_
          refine z_iconst 1 dX7_give_172 rfl ?_
          refine z_icmp_ne (tgt := 180) dX7_give_173 (by decide) (by omega) ⟨by decide, by decide⟩ (fun c173 => ?_) (fun c173 => ?_)
          · refine z_iload_5 dX7_give_180 ?_
            refine z_iast dX7_give_182 rfl (by decide) (by omega) (by omega) (by omega) ?_
            refine z_iload_5 dX7_give_183 ?_
            refine z_iconst 1 dX7_give_185 rfl ?_
            refine z_icmp_ne (tgt := 202) dX7_give_186 (by decide) (by omega) ⟨by decide, by decide⟩ (fun c186 => ?_) (fun c186 => by exfalso; omega)
            refine z_iconst (-1) dX7_give_202 rfl ?_
            refine z_iret dX7_give_203 rfl ?_
            rw [zgive1, if_neg c54, if_neg c102, if_neg c153, if_pos c162, if_neg c173] at h
            exact h (zsA (zsA (zsF (zsF σ 0 26 r.1) 0 27 (r.2 - (σ.2 11 T))) 11 T r.2) 12 T (σ.2 12 T)) (eqM.A (eqM.A (eqM.jF zJ27 (eqM.jF zJ26 eqM.rfl'))))
          · refine z_iconst 2 dX7_give_176 rfl ?_
            refine z_goto (tgt := 182) dX7_give_177 (by decide) ?_
            refine z_iast dX7_give_182 rfl (by decide) (by omega) (by omega) ⟨by decide, by decide⟩ ?_
            refine z_iload_5 dX7_give_183 ?_
            refine z_iconst 1 dX7_give_185 rfl ?_
            refine z_icmp_ne (tgt := 202) dX7_give_186 (by decide) (by omega) ⟨by decide, by decide⟩ (fun c186 => by exfalso; omega) (fun c186 => ?_)
            refine z_aload_0 dX7_give_189 ?_
            refine z_iconst 0 dX7_give_190 rfl ?_
            refine z_bipush 32 dX7_give_191 (by decide +kernel) ?_
            refine z_bipush 10 dX7_give_193 (by decide +kernel) ?_
            refine z_iload_2 dX7_give_195 ?_
            refine z_callV mX7_keep [.int (zI 0), .int (zI 32), .int (zI 10), .int (zI (σ.2 11 T))] dX7_give_196 zk_X7_keep zl_X7_142 ⟨Nat.le_of_ble_eq_true rfl, Nat.le_of_ble_eq_true rfl⟩ rfl rfl (Nat.le_of_ble_eq_true rfl) (Nat.le_of_ble_eq_true rfl) ?_
            refine M_X7_keepZ T hT0 hT6 (zeqE (b := σ.1 0 10) (zsA_F.trans (zsA_F.trans ((zsF_ne (by omega)).trans (zsF_ne (by omega))))) (by omega)) 0 32 10 (σ.2 11 T) (by omega) (by omega) (by omega) (by omega) (zgeE (b := σ.1 0 19) (zsA_F.trans (zsA_F.trans ((zsF_ne (by omega)).trans (zsF_ne (by omega))))) (by omega)) (zltE (b := σ.1 0 19) (zsA_F.trans (zsA_F.trans ((zsF_ne (by omega)).trans (zsF_ne (by omega))))) (by omega)) ?_
            refine z_b1 ?_
            refine z_top (b := σ.1 0 19) (zsA_F.trans (zsA_F.trans ((zsF_ne (by omega)).trans (zsF_ne (by omega))))) ?_
            refine z_goto (tgt := 203) dX7_give_199 (by decide) ?_
            refine z_iret dX7_give_203 rfl ?_
            rw [zgive1, if_neg c54, if_neg c102, if_neg c153, if_pos c162, if_pos c173] at h
            exact h (zkeep (zsA (zsA (zsF (zsF σ 0 26 r.1) 0 27 (r.2 - (σ.2 11 T))) 11 T r.2) 12 T 2) T 0 32 10 (σ.2 11 T)) (eqM_keep (eqM.A (eqM.A (eqM.jF zJ27 (eqM.jF zJ26 eqM.rfl')))))
      · refine z_iconst (-1) dX7_give_156 rfl ?_
        refine z_iret dX7_give_157 rfl ?_
        rw [zgive1, if_neg c54, if_neg c102, if_pos c153] at h
        exact h (zsA (zsF (zsF σ 0 26 r.1) 0 27 (r.2 - (σ.2 11 T))) 11 T r.2) (eqM.A (eqM.jF zJ27 (eqM.jF zJ26 eqM.rfl')))
    · refine z_aload_0 dX7_give_105 ?_
      refine z_getR (j := 16) dX7_give_106 zf_X7_48 rfl rfl ?_
      refine z_iload_1 dX7_give_109 ?_
      refine z_iconst (-1) dX7_give_110 rfl ?_
      refine z_iast dX7_give_111 rfl (by decide) (by omega) (by omega) ⟨by decide, by decide⟩ ?_
      refine z_iload_5 dX7_give_112 ?_
      refine z_if_ne (tgt := 128) dX7_give_114 (by decide) (by omega) (fun c114 => ?_) (fun c114 => ?_)
      · refine z_iload_5 dX7_give_128 ?_
        refine z_iconst 1 dX7_give_130 rfl ?_
        refine z_icmp_ne (tgt := 147) dX7_give_131 (by decide) (by omega) ⟨by decide, by decide⟩ (fun c131 => ?_) (fun c131 => ?_)
        · refine z_iconst (-1) dX7_give_147 rfl ?_
          refine z_iret dX7_give_148 rfl ?_
          rw [zgive1, if_neg c54, if_pos c102, if_neg c114, if_neg c131] at h
          exact h (zsA (zsA (zsF (zsF σ 0 26 r.1) 0 27 (r.2 - (σ.2 11 T))) 11 T r.2) 12 T (-1)) (eqM.A (eqM.A (eqM.jF zJ27 (eqM.jF zJ26 eqM.rfl'))))
        · refine z_aload_0 dX7_give_134 ?_
          refine z_iconst 0 dX7_give_135 rfl ?_
          refine z_bipush 32 dX7_give_136 (by decide +kernel) ?_
          refine z_bipush 10 dX7_give_138 (by decide +kernel) ?_
          refine z_iload_2 dX7_give_140 ?_
          refine z_callV mX7_keep [.int (zI 0), .int (zI 32), .int (zI 10), .int (zI (σ.2 11 T))] dX7_give_141 zk_X7_keep zl_X7_142 ⟨Nat.le_of_ble_eq_true rfl, Nat.le_of_ble_eq_true rfl⟩ rfl rfl (Nat.le_of_ble_eq_true rfl) (Nat.le_of_ble_eq_true rfl) ?_
          refine M_X7_keepZ T hT0 hT6 (zeqE (b := σ.1 0 10) (zsA_F.trans (zsA_F.trans ((zsF_ne (by omega)).trans (zsF_ne (by omega))))) (by omega)) 0 32 10 (σ.2 11 T) (by omega) (by omega) (by omega) (by omega) (zgeE (b := σ.1 0 19) (zsA_F.trans (zsA_F.trans ((zsF_ne (by omega)).trans (zsF_ne (by omega))))) (by omega)) (zltE (b := σ.1 0 19) (zsA_F.trans (zsA_F.trans ((zsF_ne (by omega)).trans (zsF_ne (by omega))))) (by omega)) ?_
          refine z_b1 ?_
          refine z_top (b := σ.1 0 19) (zsA_F.trans (zsA_F.trans ((zsF_ne (by omega)).trans (zsF_ne (by omega))))) ?_
          refine z_goto (tgt := 148) dX7_give_144 (by decide) ?_
          refine z_iret dX7_give_148 rfl ?_
          rw [zgive1, if_neg c54, if_pos c102, if_neg c114, if_pos c131] at h
          exact h (zkeep (zsA (zsA (zsF (zsF σ 0 26 r.1) 0 27 (r.2 - (σ.2 11 T))) 11 T r.2) 12 T (-1)) T 0 32 10 (σ.2 11 T)) (eqM_keep (eqM.A (eqM.A (eqM.jF zJ27 (eqM.jF zJ26 eqM.rfl')))))
      · refine z_aload_0 dX7_give_117 ?_
        refine z_iconst 1 dX7_give_118 rfl ?_
        refine z_iconst 0 dX7_give_119 rfl ?_
        refine z_iconst 0 dX7_give_120 rfl ?_
        refine z_iload_2 dX7_give_121 ?_
        refine z_callV mX7_keep [.int (zI 1), .int (zI 0), .int (zI 0), .int (zI (σ.2 11 T))] dX7_give_122 zk_X7_keep zl_X7_142 ⟨Nat.le_of_ble_eq_true rfl, Nat.le_of_ble_eq_true rfl⟩ rfl rfl (Nat.le_of_ble_eq_true rfl) (Nat.le_of_ble_eq_true rfl) ?_
        refine M_X7_keepZ T hT0 hT6 (zeqE (b := σ.1 0 10) (zsA_F.trans (zsA_F.trans ((zsF_ne (by omega)).trans (zsF_ne (by omega))))) (by omega)) 1 0 0 (σ.2 11 T) (by omega) (by omega) (by omega) (by omega) (zgeE (b := σ.1 0 19) (zsA_F.trans (zsA_F.trans ((zsF_ne (by omega)).trans (zsF_ne (by omega))))) (by omega)) (zltE (b := σ.1 0 19) (zsA_F.trans (zsA_F.trans ((zsF_ne (by omega)).trans (zsF_ne (by omega))))) (by omega)) ?_
        refine z_b1 ?_
        refine z_top (b := σ.1 0 19) (zsA_F.trans (zsA_F.trans ((zsF_ne (by omega)).trans (zsF_ne (by omega))))) ?_
        refine z_goto (tgt := 148) dX7_give_125 (by decide) ?_
        refine z_iret dX7_give_148 rfl ?_
        rw [zgive1, if_neg c54, if_pos c102, if_pos c114] at h
        exact h (zkeep (zsA (zsA (zsF (zsF σ 0 26 r.1) 0 27 (r.2 - (σ.2 11 T))) 11 T r.2) 12 T (-1)) T 1 0 0 (σ.2 11 T)) (eqM_keep (eqM.A (eqM.A (eqM.jF zJ27 (eqM.jF zJ26 eqM.rfl')))))
  · refine z_aload_0 dX7_give_57 ?_
    refine z_getR (j := 15) dX7_give_58 zf_X7_45 rfl rfl ?_
    refine z_iload_1 dX7_give_61 ?_
    refine z_aload_0 dX7_give_62 ?_
    refine z_iload_2 dX7_give_63 ?_
    refine z_aload_0 dX7_give_64 ?_
    refine z_getI (j := 27) dX7_give_65 zf_X7_107 rfl rfl ?_
    refine z_top (b := (r.2 - (σ.2 11 T))) (zsA_F.trans zsF_eq) ?_
    refine z_iadd dX7_give_68 ?_
    refine z_top (b := r.2) (by omega) ?_
    refine z_callV mX7_readWord [.int (zI r.2)] dX7_give_69 zk_X7_readWord zl_X7_135 ⟨Nat.le_of_ble_eq_true rfl, Nat.le_of_ble_eq_true rfl⟩ rfl rfl (Nat.le_of_ble_eq_true rfl) (Nat.le_of_ble_eq_true rfl) ?_
    refine N2_X7_readWord T hT0 hT6 (zeqE (b := σ.1 0 10) (zsA_F.trans ((zsF_ne (by omega)).trans (zsF_ne (by omega)))) (by omega)) (σ.2 1) (zmr (σ.2 9) T) (σ.2 10 T) r.2 w hw (((zsA_arr (by omega)).trans (zsF_W.trans zsF_W)).trans hc) ((zmr_cg ((zsA_arr (by omega)).trans (zsF_W.trans zsF_W))).trans hrow) (((zsA_ne1 (by omega)).trans (zsF_A.trans zsF_A)).trans hln) (by omega) hrow0 (by omega) (by omega) (zgeE (b := σ.1 0 24) (zsA_F.trans ((zsF_ne (by omega)).trans (zsF_ne (by omega)))) (by omega)) (zltE (b := σ.1 0 24) (zsA_F.trans ((zsF_ne (by omega)).trans (zsF_ne (by omega)))) (by omega)) (fun σ2 q1 q2 => ?_)
    refine z_b1 ?_
    have q3 : eqM σ2 (zrw (zsA σ 11 T r.2) T w) := q1.trans (eqM_rw (eqM.A (eqM.jF zJ27 (eqM.jF zJ26 eqM.rfl'))))
    have t10 : σ2.1 0 10 = σ.1 0 10 := (q3.1 0 10 zN10).trans (zrw_F (by omega))
    have t19 : σ2.1 0 19 = σ.1 0 19 := (q3.1 0 19 zN19).trans (zrw_F (by omega))
    have t21 : σ2.1 0 21 = σ.1 0 21 := (q3.1 0 21 zN21).trans (zrw_F (by omega))
    have t16 : σ2.2 16 = σ.2 16 := (q3.2 16).trans ((zrw_A (by omega)).trans (zsA_arr (by omega)))
    refine z_rg (fun hR2 => ?_)
    refine z_iast dX7_give_72 rfl (by decide) (by omega) (by omega) (by omega) ?_
    refine z_aload_0 dX7_give_73 ?_
    refine z_callV mX7_nameOfWord [] dX7_give_74 zk_X7_nameOfWord zl_X7_138 ⟨Nat.le_of_ble_eq_true rfl, Nat.le_of_ble_eq_true rfl⟩ rfl rfl (Nat.le_of_ble_eq_true rfl) (Nat.le_of_ble_eq_true rfl) ?_
    obtain ⟨n, hn⟩ : ∃ n, zname (zsA σ2 11 T w.2.1) (zdl (w.1.length : Int)) = n := ⟨_, rfl⟩
    have nrg := zname_rg (σ := zsA σ2 11 T w.2.1) (wl := zdl (w.1.length : Int)) (zgeE (zsA_F.trans t21) (by omega))
    have s21 : (zsA σ2 11 T w.2.1).1 0 21 = σ.1 0 21 := zsA_F.trans t21
    rw [hn] at nrg
    have s10 : n.2.1 0 10 = σ.1 0 10 := by rw [← hn]; exact (zname_F (by omega)).trans (zsA_F.trans t10)
    have s19 : n.2.1 0 19 = σ.1 0 19 := by rw [← hn]; exact (zname_F (by omega)).trans (zsA_F.trans t19)
    have he := eqM_name (eqM.A (i := 11) (z := T) (x := w.2.1) q3) (zdl (w.1.length : Int))
    rw [hn] at he
    have hdl := zdl_R (d := (w.1.length : Int)) (by omega)
    refine N2_X7_name (zdl (w.1.length : Int)) n hn (zsA_F.trans q2) (zgeE (zsA_F.trans t21) (by omega)) (zleE (zsA_F.trans t21) (by omega)) (by omega) (by omega) (fun q => by rw [show (zsA σ2 11 T w.2.1).2 16 = σ.2 16 from (zsA_arr (by omega)).trans t16]; exact hnl q) ?_
    refine z_b1 ?_
    refine z_rg (fun hR3 => ?_)
    refine z_istore_6 dX7_give_77 (Nat.le_of_ble_eq_true rfl) rfl ?_
    refine z_iload_6 dX7_give_79 ?_
    refine z_if_ge (tgt := 89) dX7_give_81 (by decide) (by omega) (fun c81 => ?_) (fun c81 => ?_)
    · refine z_aload_0 dX7_give_89 ?_
      refine z_iconst 1 dX7_give_90 rfl ?_
      refine z_iload_6 dX7_give_91 ?_
      refine z_iconst 0 dX7_give_93 rfl ?_
      refine z_iload_2 dX7_give_94 ?_
      refine z_callV mX7_keep [.int (zI 1), .int (zI n.1), .int (zI 0), .int (zI (σ.2 11 T))] dX7_give_95 zk_X7_keep zl_X7_142 ⟨Nat.le_of_ble_eq_true rfl, Nat.le_of_ble_eq_true rfl⟩ rfl rfl (Nat.le_of_ble_eq_true rfl) (Nat.le_of_ble_eq_true rfl) ?_
      refine M_X7_keepZ T hT0 hT6 (by omega) 1 n.1 0 (σ.2 11 T) (by omega) (by omega) (by omega) (by omega) (by omega) (by omega) ?_
      refine z_b1 ?_
      refine z_iret dX7_give_98 rfl ?_
      rw [zgive1, if_pos c54, zgv0, hr, hwd] at h
      rw [if_neg (by rw [← he.1]; omega)] at h
      rw [← he.1] at h
      exact zPe (h _ (eqM_keep he.2)) s19
    · refine z_bipush (-4) dX7_give_84 (by decide +kernel) ?_
      refine z_goto (tgt := 98) dX7_give_86 (by decide) ?_
      refine z_iret dX7_give_98 rfl ?_
      rw [zgive1, if_pos c54, zgv0, hr, hwd] at h
      rw [if_pos (by rw [← he.1]; omega)] at h
      exact h _ he.2

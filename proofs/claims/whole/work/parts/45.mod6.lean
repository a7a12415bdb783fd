theorem eqM_beg {a b : zSt} {T l : Int} (h : eqM a b) : eqM (zbeg a T l) (zbeg b T l) := by
  have h1 : a.1 0 5 = b.1 0 5 := h.1 0 5 zN5
  have h2 : a.1 0 18 = b.1 0 18 := h.1 0 18 zN18
  unfold zbeg zbn
  rw [h1, h2, h.2 5, h.2 6]
  split
  · exact (((((h.B).A).A).A).A).F
  · exact ((((h.B).A).A).A).F
theorem eqM_hl : ∀ (L : Nat) {a b : zSt}, eqM a b → eqM (zhl L a) (zhl L b)
  | 0, _, _, h => h
  | t + 1, a, b, h => by
    rw [zhl, zhl, h.2 12, h.2 13, h.2 4, h.2 7, h.2 8]
    split
    · exact h
    · split
      · exact eqM_hl t h.F
      · exact eqM_beg h.A
theorem eqM_give {a b : zSt} {T : Int} (h : eqM a b) : (zgive a T).1 = (zgive b T).1 ∧ eqM (zgive a T).2 (zgive b T).2 := by
  have h19 : a.1 0 19 = b.1 0 19 := h.1 0 19 zN19
  unfold zgive
  rw [h.2 1, h.2 9, h.2 10, h.2 11]
  generalize zgr (b.2 1) (zmr (b.2 9) T) (b.2 10 T) (b.2 11 T) = r
  generalize b.2 1 r.1 = c
  unfold zgive1
  rw [h.2 11, h.2 12, h.2 3, h19]
  split
  · unfold zgv0
    have hw : zgwd a T = zgwd b T := by unfold zgwd; rw [h.2 1, h.2 9, h.2 10, h.2 11]
    rw [hw, h.2 1, h.2 9, h.2 10, h.2 11, h19]
    have e := eqM_name (eqM.A (i := 11) (z := T) (x := (zgwd b T).2.1) (eqM_rw (T := T) (w := zgwd b T) (eqM.A (i := 11) (z := T) (x := (zgr (b.2 1) (zmr (b.2 9) T) (b.2 10 T) (b.2 11 T)).2) h))) (zdl ((zgwd b T).1.length : Int))
    rw [e.1]
    split
    · exact ⟨rfl, e.2⟩
    · exact ⟨rfl, eqM_keep e.2⟩
  · split
    · split
      · exact ⟨rfl, eqM_keep h.A.A⟩
      · split
        · exact ⟨rfl, eqM_keep h.A.A⟩
        · exact ⟨rfl, h.A.A⟩
    · split
      · exact ⟨rfl, h.A⟩
      · split
        · split
          · exact ⟨rfl, eqM_keep h.A.A⟩
          · exact ⟨rfl, h.A.A⟩
        · split
          · exact ⟨rfl, h.A.A⟩
          · split
            · exact ⟨rfl, eqM_tell h.A⟩
            · split
              · split
                · exact ⟨rfl, eqM_keep (eqM_tell h.A.A)⟩
                · exact ⟨rfl, eqM_keep h.A.A⟩
              · exact ⟨rfl, eqM_keep h.A.A⟩
noncomputable def znx : Nat → zSt → Int × zSt
  | 0, σ => (-3, σ)
  | n + 1, σ => if (zhl (σ.1 0 10).toNat σ).1 0 10 ≤ 0 then (-3, zhl (σ.1 0 10).toNat σ)
    else if (zhl (σ.1 0 10).toNat σ).2 10 ((zhl (σ.1 0 10).toNat σ).1 0 10 - 1) ≤ (zhl (σ.1 0 10).toNat σ).2 11 ((zhl (σ.1 0 10).toNat σ).1 0 10 - 1) then znx n (zsA (zhl (σ.1 0 10).toNat σ) 12 ((zhl (σ.1 0 10).toNat σ).1 0 10 - 1) (-1))
    else if (zgive (zhl (σ.1 0 10).toNat σ) ((zhl (σ.1 0 10).toNat σ).1 0 10 - 1)).1 = -1 then znx n (zgive (zhl (σ.1 0 10).toNat σ) ((zhl (σ.1 0 10).toNat σ).1 0 10 - 1)).2
    else zgive (zhl (σ.1 0 10).toNat σ) ((zhl (σ.1 0 10).toNat σ).1 0 10 - 1)
/-- one round of the reference's loop, by what it does -/
theorem znx_a {n : Nat} {σ s : zSt} (hs : zhl (σ.1 0 10).toNat σ = s) (h : s.1 0 10 ≤ 0) : znx (n + 1) σ = (-3, s) := by subst hs; exact if_pos h
theorem znx_b {n : Nat} {σ s : zSt} {T : Int} (hs : zhl (σ.1 0 10).toNat σ = s) (hT : s.1 0 10 = T + 1) (h0 : 0 ≤ T) (h : s.2 10 T ≤ s.2 11 T) : znx (n + 1) σ = znx n (zsA s 12 T (-1)) := by
  have e : T = s.1 0 10 - 1 := by omega
  subst e; subst hs
  exact (if_neg (by omega)).trans (if_pos h)
theorem znx_c {n : Nat} {σ s : zSt} {T : Int} (hs : zhl (σ.1 0 10).toNat σ = s) (hT : s.1 0 10 = T + 1) (h0 : 0 ≤ T) (h : s.2 11 T < s.2 10 T) (hg : (zgive s T).1 = -1) : znx (n + 1) σ = znx n (zgive s T).2 := by
  have e : T = s.1 0 10 - 1 := by omega
  subst e; subst hs
  exact (if_neg (by omega)).trans ((if_neg (by omega)).trans (if_pos hg))
theorem znx_d {n : Nat} {σ s : zSt} {T : Int} (hs : zhl (σ.1 0 10).toNat σ = s) (hT : s.1 0 10 = T + 1) (h0 : 0 ≤ T) (h : s.2 11 T < s.2 10 T) (hg : (zgive s T).1 ≠ -1) : znx (n + 1) σ = zgive s T := by
  have e : T = s.1 0 10 - 1 := by omega
  subst e; subst hs
  exact (if_neg (by omega)).trans ((if_neg (by omega)).trans (if_neg hg))
theorem eqM_nx : ∀ (n : Nat) {a b : zSt}, eqM a b → (znx n a).1 = (znx n b).1 ∧ eqM (znx n a).2 (znx n b).2
  | 0, _, _, h => ⟨rfl, h⟩
  | n + 1, a, b, h => by
    have e10 : a.1 0 10 = b.1 0 10 := h.1 0 10 zN10
    have hs := eqM_hl (b.1 0 10).toNat h
    have f10 : (zhl (b.1 0 10).toNat a).1 0 10 = (zhl (b.1 0 10).toNat b).1 0 10 := hs.1 0 10 zN10
    have hg := eqM_give (T := (zhl (b.1 0 10).toNat b).1 0 10 - 1) hs
    rw [znx, znx, e10, f10, hs.2 10, hs.2 11, hg.1]
    split
    · exact ⟨rfl, hs⟩
    · split
      · exact eqM_nx n hs.A
      · split
        · exact eqM_nx n hg.2
        · exact ⟨hg.1, hg.2⟩

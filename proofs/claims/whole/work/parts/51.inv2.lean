theorem inv_tell {N : Int} {σ : zSt} (hI : zInv N σ) (a c : Int) : zInv (N + 1) (ztell σ a c) := by
  unfold ztell; split
  · exact inv_told (inv_rp hI _ _ _ _)
  · exact inv_told hI
theorem inv_wr {N : Int} : ∀ (L : List Int) {σ : zSt} (k : Int), zInv N σ → (∀ s ∈ L, 0 ≤ s ∧ s ≤ 255) → zInv N (zwr 18 σ k L)
  | [], _, _, h, _ => h
  | s :: L, σ, k, h, hs => by
    rw [zwr]
    refine inv_wr L _ ?_ (fun x hx => hs x (List.mem_cons_of_mem _ hx))
    split
    · exact inv_wA h _ _ (hs s List.mem_cons_self)
    · exact h
theorem inv_rw {N : Int} {σ : zSt} (hI : zInv N σ) (T : Int) (w : List Int × Int × Int) (hw : ∀ s ∈ w.1, 0 ≤ s ∧ s ≤ 255) (h2 : w.2.2 = 1 ∨ w.2.2 = 2) : zInv (N + 1) (zrw σ T w) := by
  unfold zrw
  refine inv_A12 ?_ T w.2.2 (by omega)
  split
  · exact inv_tell (inv_wr _ _ hI hw) _ _
  · exact zInv_mono (inv_wr _ _ hI hw) (by omega)
theorem zfnd_neg {P : Int → Prop} : ∀ (n : Nat), ¬ 0 ≤ zfnd P n → ∀ j : Int, 0 ≤ j → j < n → ¬ P j
  | 0, _, j, q0, q1 => by omega
  | n + 1, h, j, q0, q1 => by
    rw [zfnd] at h
    by_cases h1 : 0 ≤ zfnd P n
    · rw [if_pos h1] at h; exact absurd h1 h
    · rw [if_neg h1] at h
      by_cases hj : j < (n : Int)
      · exact zfnd_neg n h1 j q0 hj
      · intro hP
        have e : j = (n : Int) := by omega
        rw [e] at hP
        exact h (by rw [if_pos hP]; omega)
set_option maxRecDepth 10000 in
theorem inv_new {N : Int} {σ : zSt} (hI : zInv N σ) (wl : Int) (h0 : 0 ≤ wl) (h40 : wl ≤ 40) (hn9 : σ.1 0 21 ≠ 150) (hno : ∀ j, 0 ≤ j → j < σ.1 0 21 → ¬ zisW σ wl j) : zInv N (zsF (zsA (zsB σ 15 (40 * σ.1 0 21) wl (σ.2 18)) 16 (σ.1 0 21) wl) 0 21 (σ.1 0 21 + 1)) := by
  obtain ⟨hgr, hfi, hle, hto, hna, hes, htl, hbg, hca, hsa, hme, hlc, hln, hsg, hrw, hnl, hns, hwd, hlv, hlf, hdi, htk⟩ := hI
  refine ⟨hgr, hfi, hle, hto, ⟨?_, ?_⟩, hes, htl, hbg, hca, hsa, hme, hlc, hln, hsg, hrw, zA_rg (σ := zsB σ 15 (40 * σ.1 0 21) wl (σ.2 18)) hnl ⟨h0, h40⟩, zB_rg hns hwd, hwd, hlv, hlf, ?_, ?_⟩
  · show 1 ≤ σ.1 0 21 + 1; omega
  · show σ.1 0 21 + 1 ≤ 150; omega
  · generalize hn : σ.1 0 21 = n at hna hno hdi hn9 ⊢
    intro a b hb hba ha
    have ha : a < n + 1 := ha
    show ∃ w, 0 ≤ w ∧ w ≤ 40 ∧ zns ((zsB σ 15 (40 * n) wl (σ.2 18)).2 15) ((zsA (zsB σ 15 (40 * n) wl (σ.2 18)) 16 n wl).2 16) (n + 1) a w ≠ zns ((zsB σ 15 (40 * n) wl (σ.2 18)).2 15) ((zsA (zsB σ 15 (40 * n) wl (σ.2 18)) 16 n wl).2 16) (n + 1) b w
    generalize hs : (zsB σ 15 (40 * n) wl (σ.2 18)).2 15 = sg
    generalize hl : (zsA (zsB σ 15 (40 * n) wl (σ.2 18)) 16 n wl).2 16 = lg
    have l1 : ∀ x, x ≠ n → lg x = σ.2 16 x := fun x hx => by rw [← hl]; exact (zsA_ne1 (fun e => hx e.2)).trans (zsB_ne1 (fun e => absurd e.1 (by decide)))
    have l2 : lg n = wl := by rw [← hl]; exact zsA_eq
    have s1 : ∀ q, q < 40 * n → sg q = σ.2 15 q := fun q hq => by rw [← hs]; exact zsB_ne1 (by omega)
    have s2 : ∀ k, 0 ≤ k → k < wl → sg (n * 40 + k) = σ.2 18 k := fun k q0 q1 => by
      rw [← hs]; exact (zsB_in (by omega) (by omega)).trans (congrArg (σ.2 18) (by omega))
    have z1 : ∀ x w, 0 ≤ x → x < n → zns sg lg (n + 1) x w = zns (σ.2 15) (σ.2 16) n x w := fun x w q0 q1 => by
      have := hnl x
      unfold zns
      rw [l1 x (by omega)]
      by_cases c : 0 ≤ w ∧ w < σ.2 16 x
      · rw [if_pos ⟨q0, by omega, c⟩, if_pos ⟨q0, q1, c⟩, s1 _ (by omega)]
      · rw [if_neg (fun e => c e.2.2), if_neg (fun e => c e.2.2)]
    rcases Decidable.em (a < n) with q | q
    · obtain ⟨w, w0, w1, w2⟩ := hdi a b hb hba q
      exact ⟨w, w0, w1, by rw [z1 a w (by omega) q, z1 b w hb (by omega)]; exact w2⟩
    · have e : a = n := by omega
      subst e
      have hnb := hno b hb hba
      have hlb := hnl b
      rcases Decidable.em (σ.2 16 b = wl) with q1 | q1
      · have : ∃ k, 0 ≤ k ∧ k < wl ∧ σ.2 15 (40 * b + k) ≠ σ.2 18 k := Classical.byContradiction fun hc => hnb ⟨q1, fun k k0 k1 => Classical.byContradiction fun hk => hc ⟨k, k0, k1, hk⟩⟩
        obtain ⟨k, k0, k1, k2⟩ := this
        refine ⟨k, k0, by omega, ?_⟩
        rw [z1 b k hb hba, zns, zns, l2, if_pos ⟨by omega, by omega, k0, k1⟩, if_pos ⟨hb, hba, k0, by omega⟩, s2 k k0 k1, show b * 40 + k = 40 * b + k by omega]
        exact fun e => k2 e.symm
      · rcases Decidable.em (σ.2 16 b < wl) with q2 | q2
        · refine ⟨σ.2 16 b, by omega, by omega, ?_⟩
          rw [z1 b _ hb hba, zns, zns, l2, if_pos ⟨by omega, by omega, by omega, q2⟩, if_neg (by omega), s2 _ (by omega) q2]
          have := hwd (σ.2 16 b); omega
        · refine ⟨wl, h0, h40, ?_⟩
          rw [z1 b _ hb hba, zns, zns, l2, if_neg (by omega), if_pos ⟨hb, hba, h0, by omega⟩]
          have := hns (b * 40 + wl); omega
  · intro i q0 q1 e
    have := htk i q0 q1 e
    exact ⟨this.1, Int.lt_of_lt_of_le this.2 (by show σ.1 0 21 ≤ σ.1 0 21 + 1; omega)⟩
theorem inv_name {N : Int} {σ : zSt} (hI : zInv N σ) (wl : Int) (h0 : 0 ≤ wl) (h40 : wl ≤ 40) : zInv N (zname σ wl).2 := by
  have hna := hI.2.2.2.2.1
  unfold zname
  split
  · exact hI
  · split
    · exact hI
    next hf hn => exact inv_new hI wl h0 h40 hn (fun j q0 q1 => zfnd_neg _ hf j q0 (by omega))
theorem zname_lt {σ : zSt} {wl : Int} (h0 : 0 ≤ σ.1 0 21) (h : 0 ≤ (zname σ wl).1) : (zname σ wl).1 < (zname σ wl).2.1 0 21 := by
  have := zfnd_rg (zisW σ wl) (σ.1 0 21).toNat
  unfold zname at h ⊢
  split
  · dsimp only; omega
  next hf =>
    rw [if_neg hf] at h
    split
    next hn => rw [if_pos hn] at h; dsimp only at h; omega
    · show σ.1 0 21 < σ.1 0 21 + 1; omega
theorem zkeep_A {σ : zSt} {T k v c p : Int} {i : Nat} (h : i ≠ 14) : (zkeep σ T k v c p).2 i = σ.2 i :=
  (zsA_arr h).trans ((zsA_arr h).trans ((zsA_arr h).trans ((zsA_arr h).trans ((zsA_arr h).trans (zsA_arr h)))))
theorem zkeep_F {σ : zSt} {T k v c p : Int} {i j : Nat} (h : ¬ (i = 0 ∧ j = 19)) : (zkeep σ T k v c p).1 i j = σ.1 i j := zsF_ne h
set_option maxRecDepth 10000 in
theorem inv_gv0 {N : Int} {σ : zSt} (hI : zInv N σ) (T : Int) (hp : σ.2 11 T < σ.2 10 T) (hto : σ.1 0 19 < 600) : zInv (N + 1) (zgv0 σ T).2 := by
  have hlv := hI.2.2.2.2.2.2.2.2.2.2.2.2.2.2.2.2.2.2.1 T
  have hrw := hI.2.2.2.2.2.2.2.2.2.2.2.2.2.2.1
  have hna := hI.2.2.2.2.1
  have hrow0 : ∀ q, 0 ≤ zmr (σ.2 9) T q ∧ zmr (σ.2 9) T q ≤ 255 := fun q => hrw _
  have hpi : zst (zmr (σ.2 9) T) (σ.2 10 T) (σ.2 11 T) = zmr (σ.2 9) T (σ.2 11 T) := zst_in hlv.1 hp
  have hpw := hrow0 (σ.2 11 T)
  have hrg := zsee_rg (cats := σ.2 1) (row := zmr (σ.2 9) T) (len := σ.2 10 T) hrow0 (σ.2 10 T).toNat (zst (zmr (σ.2 9) T) (σ.2 10 T) (σ.2 11 T)) (σ.2 11 T + 1) (by omega) (by omega) (by omega) (by omega)
  have hwr := zword_rg (cats := σ.2 1) (row := zmr (σ.2 9) T) (len := σ.2 10 T) (p := (zgr (σ.2 1) (zmr (σ.2 9) T) (σ.2 10 T) (σ.2 11 T)).2) hrow0 (by unfold zgr; omega) (by unfold zgr; omega) hlv.2.2.1
  unfold zgv0
  have hw : zgwd σ T = zword (σ.2 1) (zmr (σ.2 9) T) (σ.2 10 T) (zgr (σ.2 1) (zmr (σ.2 9) T) (σ.2 10 T) (σ.2 11 T)).2 := rfl
  rw [← hw] at hwr
  generalize zgwd σ T = w at hwr ⊢
  have hr2 : σ.2 11 T + 1 ≤ (zgr (σ.2 1) (zmr (σ.2 9) T) (σ.2 10 T) (σ.2 11 T)).2 ∧ (zgr (σ.2 1) (zmr (σ.2 9) T) (σ.2 10 T) (σ.2 11 T)).2 ≤ σ.2 10 T := by unfold zgr; omega
  generalize zgr (σ.2 1) (zmr (σ.2 9) T) (σ.2 10 T) (σ.2 11 T) = r at hwr hr2 ⊢
  have e10 : (zrw (zsA σ 11 T r.2) T w).2 10 = σ.2 10 := (zrw_A (by omega)).trans (zsA_arr (by omega))
  have hS : zInv (N + 1) (zsA (zrw (zsA σ 11 T r.2) T w) 11 T w.2.1) := inv_A11 (inv_rw (inv_A11 hI T r.2 ⟨by omega, hr2.2⟩) T w hwr.1 hwr.2.2.2.1) T w.2.1 ⟨by omega, by rw [e10]; exact hwr.2.2.1⟩
  have s19 : (zsA (zrw (zsA σ 11 T r.2) T w) 11 T w.2.1).1 0 19 = σ.1 0 19 := zrw_F (σ := zsA σ 11 T r.2) (T := T) (w := w) (by omega)
  have s21 : (zsA (zrw (zsA σ 11 T r.2) T w) 11 T w.2.1).1 0 21 = σ.1 0 21 := zrw_F (σ := zsA σ 11 T r.2) (T := T) (w := w) (by omega)
  have hdl := zdl_R (d := (w.1.length : Int)) (by omega)
  generalize zsA (zrw (zsA σ 11 T r.2) T w) 11 T w.2.1 = S at hS s19 s21 ⊢
  have hN := inv_name hS (zdl (w.1.length : Int)) hdl.1 hdl.2.1
  have hlt := zname_lt (σ := S) (wl := zdl (w.1.length : Int)) (by rw [s21]; omega)
  have hF : (zname S (zdl (w.1.length : Int))).2.1 0 19 = S.1 0 19 := zname_F (by omega)
  split
  · exact hN
  next hneg => exact inv_keep hN T 1 _ 0 (σ.2 11 T) (by rw [hF, s19]; exact hto) (fun _ => ⟨Int.not_lt.mp hneg, hlt (Int.not_lt.mp hneg)⟩)
theorem inv_c11 {N : Int} {σ : zSt} (h : zInv N σ) : zInv (N + 1) σ := zInv_mono h (by omega)
set_option maxRecDepth 10000 in
theorem inv_give {N : Int} {σ : zSt} (hI : zInv N σ) (T : Int) (hp : σ.2 11 T < σ.2 10 T) (hto : σ.1 0 19 < 600) : zInv (N + 1) (zgive σ T).2 := by
  have hlv := hI.2.2.2.2.2.2.2.2.2.2.2.2.2.2.2.2.2.2.1 T
  have hrw := hI.2.2.2.2.2.2.2.2.2.2.2.2.2.2.1
  have hna := hI.2.2.2.2.1
  have hrow0 : ∀ q, 0 ≤ zmr (σ.2 9) T q ∧ zmr (σ.2 9) T q ≤ 255 := fun q => hrw _
  have hpi : zst (zmr (σ.2 9) T) (σ.2 10 T) (σ.2 11 T) = zmr (σ.2 9) T (σ.2 11 T) := zst_in hlv.1 hp
  have hpw := hrow0 (σ.2 11 T)
  have hrg := zsee_rg (cats := σ.2 1) (row := zmr (σ.2 9) T) (len := σ.2 10 T) hrow0 (σ.2 10 T).toNat (zst (zmr (σ.2 9) T) (σ.2 10 T) (σ.2 11 T)) (σ.2 11 T + 1) (by omega) (by omega) (by omega) (by omega)
  have hv0 := inv_gv0 hI T hp hto
  have hr2 : σ.2 11 T + 1 ≤ (zgr (σ.2 1) (zmr (σ.2 9) T) (σ.2 10 T) (σ.2 11 T)).2 ∧ (zgr (σ.2 1) (zmr (σ.2 9) T) (σ.2 10 T) (σ.2 11 T)).2 ≤ σ.2 10 T := by unfold zgr; omega
  unfold zgive
  generalize zgr (σ.2 1) (zmr (σ.2 9) T) (σ.2 10 T) (σ.2 11 T) = r at hr2 ⊢
  generalize σ.2 1 r.1 = c
  have h1 := inv_A11 hI T r.2 ⟨by omega, hr2.2⟩
  have h0 := zInv_mono h1 (N' := N + 1) (by omega)
  unfold zgive1
  split
  · exact hv0
  split
  · split
    · exact inv_keep (inv_A12 h0 T (-1) (by omega)) T 1 0 0 _ hto (fun _ => ⟨Int.le_refl 0, by show 0 < σ.1 0 21; omega⟩)
    split
    · exact inv_keep (inv_A12 h0 T (-1) (by omega)) T 0 32 10 _ hto (fun e => absurd e (by decide))
    · exact inv_A12 h0 T (-1) (by omega)
  split
  · exact h0
  split
  · split
    · exact inv_keep (inv_A12 h0 T 2 (by omega)) T 0 32 10 _ hto (fun e => absurd e (by decide))
    · exact inv_A12 h0 T _ (by omega)
  split
  · exact inv_A12 h0 T (-1) (by omega)
  split
  · exact inv_tell h1 _ _
  split
  · split
    · refine inv_keep (inv_tell (inv_A12 h1 T 1 (by omega)) _ _) T 2 _ _ _ ?_ (fun e => absurd e (by decide))
      exact Int.lt_of_le_of_lt (Int.le_of_eq (ztell_F (by omega))) hto
    · exact inv_keep (inv_A12 h0 T 1 (by omega)) T 2 _ _ _ hto (fun e => absurd e (by decide))
  · exact inv_keep (inv_A12 h0 T 1 (by omega)) T 0 _ _ _ hto (fun e => absurd e (by decide))

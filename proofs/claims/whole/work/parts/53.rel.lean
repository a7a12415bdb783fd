/-! the class's state c and the reference's state m say the same -/
def zLv (c m : zSt) (t : Nat) : Prop := (c.1 (18 + t) 1 = m.2 7 t ∧ c.1 (18 + t) 2 = m.2 8 t + 1 ∧ c.1 (18 + t) 3 = m.2 13 t) ∧ ((m.2 12 t < 0 ∧ c.1 (18 + t) 4 = 0) ∨ (0 ≤ m.2 12 t ∧ c.1 (18 + t) 4 = 1 ∧ c.1 (18 + t) 5 = m.2 10 t ∧ c.1 (18 + t) 6 = m.2 11 t ∧ c.1 (18 + t) 7 = m.2 12 t ∧ ∀ q, 0 ≤ q → q < m.2 10 t → c.2 (24 + t) q = m.2 9 (128 * t + q)))
def zRf (c m : zSt) : Prop := c.1 1 2 = m.1 0 3 ∧ c.1 3 3 = m.1 0 6 ∧ c.1 5 3 = m.1 0 21 ∧ c.1 6 1 = m.1 0 19 ∧ c.1 7 1 = m.1 0 24 ∧ c.1 0 7 = m.1 0 10 ∧ c.1 0 8 = m.1 0 5 ∧ c.1 0 9 = m.1 0 18
def zRa (c m : zSt) : Prop := c.2 8 = m.2 1 ∧ c.2 9 = m.2 2 ∧ c.2 2 = m.2 3 ∧ c.2 10 = m.2 4 ∧ c.2 11 = m.2 5 ∧ c.2 12 = m.2 6 ∧ c.2 13 = m.2 15 ∧ c.2 14 = m.2 16 ∧ c.2 16 = m.2 14 ∧ c.2 17 = m.2 17
def zRel (c m : zSt) : Prop := zRf c m ∧ zRa c m ∧ ∀ t : Nat, (t : Int) < m.1 0 10 → zLv c m t
theorem zLv_cg {c c' m m' : zSt} {t : Nat} (h : zLv c m t) (e1 : ∀ j, 1 ≤ j → j ≤ 7 → c'.1 (18 + t) j = c.1 (18 + t) j) (e2 : c'.2 (24 + t) = c.2 (24 + t)) (e3 : ∀ i, i = 7 ∨ i = 8 ∨ i = 10 ∨ i = 11 ∨ i = 12 ∨ i = 13 → m'.2 i t = m.2 i t) (e4 : ∀ q, 0 ≤ q → q < m.2 10 t → m'.2 9 (128 * t + q) = m.2 9 (128 * t + q)) : zLv c' m' t := by
  unfold zLv at h ⊢
  rw [e1 1 (by omega) (by omega), e1 2 (by omega) (by omega), e1 3 (by omega) (by omega), e1 4 (by omega) (by omega), e1 5 (by omega) (by omega), e1 6 (by omega) (by omega), e1 7 (by omega) (by omega), e2, e3 7 (by omega), e3 8 (by omega), e3 10 (by omega), e3 11 (by omega), e3 12 (by omega), e3 13 (by omega)]
  refine ⟨h.1, ?_⟩
  rcases h.2 with q | ⟨q1, q2, q3, q4, q5, q6⟩
  · exact Or.inl q
  · exact Or.inr ⟨q1, q2, q3, q4, q5, fun q a b => (q6 q a b).trans (e4 q a b).symm⟩
theorem zRel.eqM {c m m' : zSt} (h : zRel c m) (e : eqM m m') : zRel c m' := by
  obtain ⟨hf, ha, hl⟩ := h
  unfold zRf at hf
  unfold zRa at ha
  rw [e.1 0 3 zN3, e.1 0 6 zN6, e.1 0 21 zN21, e.1 0 19 zN19, e.1 0 24 zN24, e.1 0 10 zN10, e.1 0 5 zN5, e.1 0 18 zN18] at hf
  rw [e.2 1, e.2 2, e.2 3, e.2 4, e.2 5, e.2 6, e.2 15, e.2 16, e.2 14, e.2 17] at ha
  exact ⟨hf, ha, fun t q => zLv_cg (hl t (by rw [e.1 0 10 zN10]; exact q)) (fun _ _ _ => rfl) rfl (fun i _ => by rw [e.2 i]) (fun q _ _ => by rw [e.2 9])⟩
def zCJ (i j : Nat) : Prop := (18 ≤ i ∧ i < 24 ∧ (j = 8 ∨ j = 9)) ∨ (i = 5 ∧ j = 4)
theorem zRel.jF {c m : zSt} {i j : Nat} {x : Int} (hj : zCJ i j) (h : zRel c m) : zRel (zsF c i j x) m := by
  obtain ⟨⟨f1, f2, f3, f4, f5, f6, f7, f8⟩, ha, hl⟩ := h
  unfold zCJ at hj
  exact ⟨⟨(zsF_ne (by omega)).trans f1, (zsF_ne (by omega)).trans f2, (zsF_ne (by omega)).trans f3, (zsF_ne (by omega)).trans f4, (zsF_ne (by omega)).trans f5, (zsF_ne (by omega)).trans f6, (zsF_ne (by omega)).trans f7, (zsF_ne (by omega)).trans f8⟩, ha, fun t q => zLv_cg (hl t q) (fun j' _ _ => zsF_ne (by omega)) rfl (fun _ _ => rfl) (fun _ _ _ => rfl)⟩
theorem zRel.jA {c m : zSt} {z x : Int} (h : zRel c m) : zRel (zsA c 15 z x) m := by
  obtain ⟨hf, ⟨a1, a2, a3, a4, a5, a6, a7, a8, a9, a10⟩, hl⟩ := h
  exact ⟨hf, ⟨(zsA_arr (by omega)).trans a1, (zsA_arr (by omega)).trans a2, (zsA_arr (by omega)).trans a3, (zsA_arr (by omega)).trans a4, (zsA_arr (by omega)).trans a5, (zsA_arr (by omega)).trans a6, (zsA_arr (by omega)).trans a7, (zsA_arr (by omega)).trans a8, (zsA_arr (by omega)).trans a9, (zsA_arr (by omega)).trans a10⟩, fun t q => zLv_cg (hl t q) (fun _ _ _ => rfl) (zsA_arr (by omega)) (fun _ _ => rfl) (fun _ _ _ => rfl)⟩
theorem zRel.mA {c m : zSt} {z x : Int} (h : zRel c m) : zRel c (zsA m 18 z x) := by
  obtain ⟨hf, ⟨a1, a2, a3, a4, a5, a6, a7, a8, a9, a10⟩, hl⟩ := h
  exact ⟨hf, ⟨a1.trans (zsA_arr (by omega)).symm, a2.trans (zsA_arr (by omega)).symm, a3.trans (zsA_arr (by omega)).symm, a4.trans (zsA_arr (by omega)).symm, a5.trans (zsA_arr (by omega)).symm, a6.trans (zsA_arr (by omega)).symm, a7.trans (zsA_arr (by omega)).symm, a8.trans (zsA_arr (by omega)).symm, a9.trans (zsA_arr (by omega)).symm, a10.trans (zsA_arr (by omega)).symm⟩, fun t q => zLv_cg (hl t q) (fun _ _ _ => rfl) rfl (fun _ _ => zsA_ne1 (by omega)) (fun _ _ _ => zsA_ne1 (by omega))⟩
theorem zRel.wr {c : zSt} : ∀ (L : List Int) {m : zSt} (k : Int), zRel c m → zRel c (zwr 18 m k L)
  | [], _, _, h => h
  | s :: L, m, k, h => by
    rw [zwr]
    refine zRel.wr L _ ?_
    split
    · exact h.mA
    · exact h
theorem zRel.lvF {c m : zSt} {t : Nat} {j i : Nat} {x y : Int} (h : zRel c m) (ht : t < 6) (hi : i = 11 ∨ i = 12 ∨ i = 13) (hl : (t : Int) < m.1 0 10 → zLv (zsF c (18 + t) j x) (zsA m i t y) t) : zRel (zsF c (18 + t) j x) (zsA m i t y) := by
  obtain ⟨⟨f1, f2, f3, f4, f5, f6, f7, f8⟩, ⟨a1, a2, a3, a4, a5, a6, a7, a8, a9, a10⟩, hv⟩ := h
  refine ⟨⟨(zsF_ne (by omega)).trans f1, (zsF_ne (by omega)).trans f2, (zsF_ne (by omega)).trans f3, (zsF_ne (by omega)).trans f4, (zsF_ne (by omega)).trans f5, (zsF_ne (by omega)).trans f6, (zsF_ne (by omega)).trans f7, (zsF_ne (by omega)).trans f8⟩, ⟨a1.trans (zsA_arr (by omega)).symm, a2.trans (zsA_arr (by omega)).symm, a3.trans (zsA_arr (by omega)).symm, a4.trans (zsA_arr (by omega)).symm, a5.trans (zsA_arr (by omega)).symm, a6.trans (zsA_arr (by omega)).symm, a7.trans (zsA_arr (by omega)).symm, a8.trans (zsA_arr (by omega)).symm, a9.trans (zsA_arr (by omega)).symm, a10.trans (zsA_arr (by omega)).symm⟩, fun t' q => ?_⟩
  by_cases e : t' = t
  · subst e; exact hl q
  · exact zLv_cg (hv t' q) (fun _ _ _ => zsF_ne (by omega)) rfl (fun _ _ => zsA_ne1 (by omega)) (fun _ _ _ => zsA_ne1 (by omega))
theorem zRel.pl {c m : zSt} {t : Nat} {x : Int} (h : zRel c m) (ht : t < 6) : zRel (zsF c (18 + t) 6 x) (zsA m 11 t x) := by
  refine h.lvF ht (by omega) (fun q => ?_)
  obtain ⟨⟨l1, l2, l3⟩, l4⟩ := h.2.2 t q
  refine ⟨⟨(zsF_ne (by omega)).trans l1, (zsF_ne (by omega)).trans l2, (zsF_ne (by omega)).trans l3⟩, ?_⟩
  rcases l4 with l4 | ⟨q1, q2, q3, q4, q5, q6⟩
  · exact Or.inl ⟨l4.1, (zsF_ne (by omega)).trans l4.2⟩
  · exact Or.inr ⟨q1, (zsF_ne (by omega)).trans q2, (zsF_ne (by omega)).trans q3, zsF_eq.trans zsA_eq.symm, (zsF_ne (by omega)).trans q5, q6⟩
theorem zRel.st {c m : zSt} {t : Nat} {x : Int} (h : zRel c m) (ht : t < 6) (hx : 0 ≤ x) (h0 : 0 ≤ m.2 12 t) : zRel (zsF c (18 + t) 7 x) (zsA m 12 t x) := by
  refine h.lvF ht (by omega) (fun q => ?_)
  obtain ⟨⟨l1, l2, l3⟩, l4⟩ := h.2.2 t q
  refine ⟨⟨(zsF_ne (by omega)).trans l1, (zsF_ne (by omega)).trans l2, (zsF_ne (by omega)).trans l3⟩, ?_⟩
  rcases l4 with l4 | ⟨q1, q2, q3, q4, q5, q6⟩
  · exact absurd l4.1 (by omega)
  · exact Or.inr ⟨zgeE zsA_eq hx, (zsF_ne (by omega)).trans q2, (zsF_ne (by omega)).trans q3, (zsF_ne (by omega)).trans q4, zsF_eq.trans zsA_eq.symm, q6⟩
theorem zRel.ov {c m : zSt} {t : Nat} (h : zRel c m) (ht : t < 6) : zRel (zsF c (18 + t) 4 0) (zsA m 12 t (-1)) := by
  refine h.lvF ht (by omega) (fun q => ?_)
  obtain ⟨⟨l1, l2, l3⟩, l4⟩ := h.2.2 t q
  exact ⟨⟨(zsF_ne (by omega)).trans l1, (zsF_ne (by omega)).trans l2, (zsF_ne (by omega)).trans l3⟩, Or.inl ⟨zltE zsA_eq (by decide), zsF_eq⟩⟩
theorem zRel.cl {c m : zSt} {t : Nat} (h : zRel c m) (ht : t < 6) : zRel (zsF c (18 + t) 3 1) (zsA m 13 t 1) := by
  refine h.lvF ht (by omega) (fun q => ?_)
  obtain ⟨⟨l1, l2, l3⟩, l4⟩ := h.2.2 t q
  refine ⟨⟨(zsF_ne (by omega)).trans l1, (zsF_ne (by omega)).trans l2, zsF_eq.trans zsA_eq.symm⟩, ?_⟩
  rcases l4 with l4 | ⟨q1, q2, q3, q4, q5, q6⟩
  · exact Or.inl ⟨l4.1, (zsF_ne (by omega)).trans l4.2⟩
  · exact Or.inr ⟨q1, (zsF_ne (by omega)).trans q2, (zsF_ne (by omega)).trans q3, (zsF_ne (by omega)).trans q4, (zsF_ne (by omega)).trans q5, q6⟩
/-- what the class's report and put do -/
def zrep (σ : zSt) (a c : Int) : zSt := if σ.1 7 1 < 100 then zsF (zrp σ 17 (σ.1 7 1 * 3) a (σ.1 6 1) c) 7 1 (σ.1 7 1 + 1) else zsF σ 7 1 (σ.1 7 1 + 1)
def zput (σ : zSt) (t : Nat) (k v c p : Int) : zSt := zsF (zpt σ 16 (σ.1 6 1 * 6) k v c (σ.1 (18 + t) 1) (σ.1 (18 + t) 2 - 1) p) 6 1 (σ.1 6 1 + 1)
theorem zrep_F {σ : zSt} {a c : Int} {i j : Nat} (h : ¬ (i = 7 ∧ j = 1)) : (zrep σ a c).1 i j = σ.1 i j := by
  unfold zrep; split
  · exact zsF_ne h
  · exact zsF_ne h
theorem zrep_A {σ : zSt} {a c : Int} {i : Nat} (h : i ≠ 17) : (zrep σ a c).2 i = σ.2 i := by
  unfold zrep; split
  · exact (zsA_arr h).trans ((zsA_arr h).trans (zsA_arr h))
  · rfl
theorem zrep_1 {σ : zSt} {a c : Int} : (zrep σ a c).1 7 1 = σ.1 7 1 + 1 := by unfold zrep; split <;> exact zsF_eq
theorem ztell_24 {σ : zSt} {a c : Int} : (ztell σ a c).1 0 24 = σ.1 0 24 + 1 := by unfold ztell; split <;> exact zsF_eq
theorem zput_F {σ : zSt} {t : Nat} {k v c p : Int} {i j : Nat} (h : ¬ (i = 6 ∧ j = 1)) : (zput σ t k v c p).1 i j = σ.1 i j := zsF_ne h
theorem zput_A {σ : zSt} {t : Nat} {k v c p : Int} {i : Nat} (h : i ≠ 16) : (zput σ t k v c p).2 i = σ.2 i :=
  (zsA_arr h).trans ((zsA_arr h).trans ((zsA_arr h).trans ((zsA_arr h).trans ((zsA_arr h).trans (zsA_arr h)))))
theorem zAeq {c m : zSt} {i k : Nat} {z x : Int} (h : c.2 i = m.2 k) : (zsA c i z x).2 i = (zsA m k z x).2 k := by
  funext q
  show (if i = i ∧ q = z then x else c.2 i q) = (if k = k ∧ q = z then x else m.2 k q)
  rw [h]
  by_cases e : q = z
  · rw [if_pos ⟨rfl, e⟩, if_pos ⟨rfl, e⟩]
  · rw [if_neg (fun s => e s.2), if_neg (fun s => e s.2)]
theorem zRel.rep {c m : zSt} {a s : Int} (h : zRel c m) : zRel (zrep c a s) (ztell m a s) := by
  obtain ⟨⟨f1, f2, f3, f4, f5, f6, f7, f8⟩, ⟨a1, a2, a3, a4, a5, a6, a7, a8, a9, a10⟩, hl⟩ := h
  refine ⟨⟨(zrep_F (by omega)).trans (f1.trans (ztell_F (by omega)).symm), (zrep_F (by omega)).trans (f2.trans (ztell_F (by omega)).symm), (zrep_F (by omega)).trans (f3.trans (ztell_F (by omega)).symm), (zrep_F (by omega)).trans (f4.trans (ztell_F (by omega)).symm), zrep_1.trans ((congrArg (· + 1) f5).trans ztell_24.symm), (zrep_F (by omega)).trans (f6.trans (ztell_F (by omega)).symm), (zrep_F (by omega)).trans (f7.trans (ztell_F (by omega)).symm), (zrep_F (by omega)).trans (f8.trans (ztell_F (by omega)).symm)⟩,
    ⟨(zrep_A (by omega)).trans (a1.trans (ztell_A (by omega)).symm), (zrep_A (by omega)).trans (a2.trans (ztell_A (by omega)).symm), (zrep_A (by omega)).trans (a3.trans (ztell_A (by omega)).symm), (zrep_A (by omega)).trans (a4.trans (ztell_A (by omega)).symm), (zrep_A (by omega)).trans (a5.trans (ztell_A (by omega)).symm), (zrep_A (by omega)).trans (a6.trans (ztell_A (by omega)).symm), (zrep_A (by omega)).trans (a7.trans (ztell_A (by omega)).symm), (zrep_A (by omega)).trans (a8.trans (ztell_A (by omega)).symm), (zrep_A (by omega)).trans (a9.trans (ztell_A (by omega)).symm), ?_⟩, fun t q => ?_⟩
  · unfold zrep ztell
    rw [f5, f4]
    split
    · show (zrp c 17 (m.1 0 24 * 3) a (m.1 0 19) s).2 17 = (zrp m 17 (3 * m.1 0 24) a (m.1 0 19) s).2 17
      rw [show m.1 0 24 * 3 = 3 * m.1 0 24 by omega]
      exact zAeq (zAeq (zAeq a10))
    · exact a10
  · have e10 : (ztell m a s).1 0 10 = m.1 0 10 := ztell_F (by omega)
    exact zLv_cg (hl t (by rw [← e10]; exact q)) (fun _ _ _ => zrep_F (by omega)) (zrep_A (by omega)) (fun _ _ => congrFun (ztell_A (by omega)) _) (fun _ _ _ => congrFun (ztell_A (by omega)) _)
theorem zRel.put {c m : zSt} {t : Nat} {k v x p : Int} (h : zRel c m) (hT : (t : Int) < m.1 0 10) : zRel (zput c t k v x p) (zkeep m t k v x p) := by
  have hlt := (h.2.2 t hT).1
  obtain ⟨⟨f1, f2, f3, f4, f5, f6, f7, f8⟩, ⟨a1, a2, a3, a4, a5, a6, a7, a8, a9, a10⟩, hl⟩ := h
  refine ⟨⟨(zput_F (by omega)).trans (f1.trans (zkeep_F (by omega)).symm), (zput_F (by omega)).trans (f2.trans (zkeep_F (by omega)).symm), (zput_F (by omega)).trans (f3.trans (zkeep_F (by omega)).symm), ?_, (zput_F (by omega)).trans (f5.trans (zkeep_F (by omega)).symm), (zput_F (by omega)).trans (f6.trans (zkeep_F (by omega)).symm), (zput_F (by omega)).trans (f7.trans (zkeep_F (by omega)).symm), (zput_F (by omega)).trans (f8.trans (zkeep_F (by omega)).symm)⟩,
    ⟨(zput_A (by omega)).trans (a1.trans (zkeep_A (by omega)).symm), (zput_A (by omega)).trans (a2.trans (zkeep_A (by omega)).symm), (zput_A (by omega)).trans (a3.trans (zkeep_A (by omega)).symm), (zput_A (by omega)).trans (a4.trans (zkeep_A (by omega)).symm), (zput_A (by omega)).trans (a5.trans (zkeep_A (by omega)).symm), (zput_A (by omega)).trans (a6.trans (zkeep_A (by omega)).symm), (zput_A (by omega)).trans (a7.trans (zkeep_A (by omega)).symm), (zput_A (by omega)).trans (a8.trans (zkeep_A (by omega)).symm), ?_, (zput_A (by omega)).trans (a10.trans (zkeep_A (by omega)).symm)⟩, fun t' q => ?_⟩
  · show (zsF _ 6 1 (c.1 6 1 + 1)).1 6 1 = (zsF _ 0 19 (m.1 0 19 + 1)).1 0 19
    rw [zsF_eq, zsF_eq, f4]
  · show (zpt c 16 (c.1 6 1 * 6) k v x (c.1 (18 + t) 1) (c.1 (18 + t) 2 - 1) p).2 16 = (zpt m 14 (6 * m.1 0 19) k v x (m.2 7 t) (m.2 8 t) p).2 14
    rw [f4, hlt.1, hlt.2.1, show m.1 0 19 * 6 = 6 * m.1 0 19 by omega, show m.2 8 t + 1 - 1 = m.2 8 t by omega]
    exact zAeq (zAeq (zAeq (zAeq (zAeq (zAeq a9)))))
  · have e10 : (zkeep m t k v x p).1 0 10 = m.1 0 10 := zkeep_F (by omega)
    exact zLv_cg (hl t' (by rw [← e10]; exact q)) (fun _ _ _ => zput_F (by omega)) (zput_A (by omega)) (fun _ _ => congrFun (zkeep_A (by omega)) _) (fun _ _ _ => congrFun (zkeep_A (by omega)) _)
theorem zRel.pop {c m : zSt} {x : Int} (h : zRel c m) (hx : x ≤ m.1 0 10) : zRel (zsF c 0 7 x) (zsF m 0 10 x) := by
  obtain ⟨⟨f1, f2, f3, f4, f5, f6, f7, f8⟩, ha, hl⟩ := h
  exact ⟨⟨(zsF_ne (by omega)).trans (f1.trans (zsF_ne (by omega)).symm), (zsF_ne (by omega)).trans (f2.trans (zsF_ne (by omega)).symm), (zsF_ne (by omega)).trans (f3.trans (zsF_ne (by omega)).symm), (zsF_ne (by omega)).trans (f4.trans (zsF_ne (by omega)).symm), (zsF_ne (by omega)).trans (f5.trans (zsF_ne (by omega)).symm), zsF_eq.trans zsF_eq.symm, (zsF_ne (by omega)).trans (f7.trans (zsF_ne (by omega)).symm), (zsF_ne (by omega)).trans (f8.trans (zsF_ne (by omega)).symm)⟩, ha, fun t q => zLv_cg (hl t (Int.lt_of_lt_of_le (show (t : Int) < x from Int.lt_of_lt_of_le q (Int.le_of_eq zsF_eq)) hx)) (fun _ _ _ => zsF_ne (by omega)) rfl (fun _ _ => rfl) (fun _ _ _ => rfl)⟩
/-- a line is begun: c1 is the class's state behind it -/
theorem zbeg_9 {σ : zSt} {T l z : Int} (h0 : 0 ≤ zbn σ l) (hz : z < 128 * T) : (zbeg σ T l).2 9 z = σ.2 9 z := by
  unfold zbeg; split
  · exact zsF_A.trans ((zsA_ne1 (by omega)).trans ((zsA_ne1 (by omega)).trans ((zsA_ne1 (by omega)).trans ((zsA_ne1 (by omega)).trans (zsB_ne1 (by omega))))))
  · exact zsF_A.trans ((zsA_ne1 (by omega)).trans ((zsA_ne1 (by omega)).trans ((zsA_ne1 (by omega)).trans (zsB_ne1 (by omega)))))
theorem zRel.beg {c c1 m : zSt} {t : Nat} {l n : Int} (h : zRel c m) (hT : m.1 0 10 = (t : Int) + 1) (ht : t < 6) (hn : zbn m l = n) (hn0 : 0 ≤ n ∧ n ≤ 120) (hb : ∀ q, m.2 10 q ≤ 121)
    (g1 : ∀ i j, ¬ i = 18 + t → ¬ (i = 0 ∧ j = 9) → c1.1 i j = c.1 i j) (g2 : c1.1 0 9 = c.1 0 9 + 1) (g3 : c1.1 (18 + t) 1 = c.1 (18 + t) 1) (g4 : c1.1 (18 + t) 2 = c.1 (18 + t) 2 + 1) (g5 : c1.1 (18 + t) 3 = c.1 (18 + t) 3) (g6 : c1.1 (18 + t) 4 = 1) (g7 : c1.1 (18 + t) 5 = if 0 ≤ m.1 0 5 then n + 1 else n) (g8 : c1.1 (18 + t) 6 = 0) (g9 : c1.1 (18 + t) 7 = 0)
    (k1 : ∀ i, i ≠ 24 + t → c1.2 i = c.2 i) (k2 : ∀ q, 0 ≤ q → q < n → c1.2 (24 + t) q = m.2 6 (120 * l + q)) (k3 : 0 ≤ m.1 0 5 → c1.2 (24 + t) n = m.1 0 5) : zRel c1 (zbeg (zsA m 8 t (m.2 8 t + 1)) t l) := by
  obtain ⟨⟨f1, f2, f3, f4, f5, f6, f7, f8⟩, ⟨a1, a2, a3, a4, a5, a6, a7, a8, a9, a10⟩, hl⟩ := h
  have bF : ∀ i j, ¬ (i = 0 ∧ j = 18) → (zbeg (zsA m 8 t (m.2 8 t + 1)) t l).1 i j = m.1 i j := fun i j q => zbeg_F q
  have bA : ∀ i, i ≠ 8 → i ≠ 9 ∧ i ≠ 10 ∧ i ≠ 11 ∧ i ≠ 12 → (zbeg (zsA m 8 t (m.2 8 t + 1)) t l).2 i = m.2 i := fun i q q2 => (zbeg_A q2).trans (zsA_arr q)
  have b18 : (zbeg (zsA m 8 t (m.2 8 t + 1)) t l).1 0 18 = m.1 0 18 + 1 := by unfold zbeg; split <;> exact zsF_eq
  have bn : zbn (zsA m 8 t (m.2 8 t + 1)) l = n := hn
  refine ⟨⟨?_, ?_, ?_, ?_, ?_, ?_, ?_, ?_⟩, ⟨?_, ?_, ?_, ?_, ?_, ?_, ?_, ?_, ?_, ?_⟩, fun t' q => ?_⟩
  · rw [g1 1 2 (by omega) (by omega), bF 0 3 (by omega)]; exact f1
  · rw [g1 3 3 (by omega) (by omega), bF 0 6 (by omega)]; exact f2
  · rw [g1 5 3 (by omega) (by omega), bF 0 21 (by omega)]; exact f3
  · rw [g1 6 1 (by omega) (by omega), bF 0 19 (by omega)]; exact f4
  · rw [g1 7 1 (by omega) (by omega), bF 0 24 (by omega)]; exact f5
  · rw [g1 0 7 (by omega) (by omega), bF 0 10 (by omega)]; exact f6
  · rw [g1 0 8 (by omega) (by omega), bF 0 5 (by omega)]; exact f7
  · rw [g2, b18, f8]
  · rw [k1 8 (by omega), bA 1 (by omega) (by omega)]; exact a1
  · rw [k1 9 (by omega), bA 2 (by omega) (by omega)]; exact a2
  · rw [k1 2 (by omega), bA 3 (by omega) (by omega)]; exact a3
  · rw [k1 10 (by omega), bA 4 (by omega) (by omega)]; exact a4
  · rw [k1 11 (by omega), bA 5 (by omega) (by omega)]; exact a5
  · rw [k1 12 (by omega), bA 6 (by omega) (by omega)]; exact a6
  · rw [k1 13 (by omega), bA 15 (by omega) (by omega)]; exact a7
  · rw [k1 14 (by omega), bA 16 (by omega) (by omega)]; exact a8
  · rw [k1 16 (by omega), bA 14 (by omega) (by omega)]; exact a9
  · rw [k1 17 (by omega), bA 17 (by omega) (by omega)]; exact a10
  · rw [bF 0 10 (by omega)] at q
    by_cases e : t' = t
    · subst e
      have l1 := (hl t' q).1
      refine ⟨⟨?_, ?_, ?_⟩, Or.inr ⟨?_, g6, ?_, ?_, ?_, ?_⟩⟩
      · rw [g3, bA 7 (by omega) (by omega)]; exact l1.1
      · rw [g4, zbeg_A (by omega), zsA_eq, l1.2.1]
      · rw [g5, bA 13 (by omega) (by omega)]; exact l1.2.2
      · rw [zbeg_12]; exact Int.le_refl 0
      · rw [g7, zbeg_10, bn]; rfl
      · rw [g8, zbeg_11]
      · rw [g9, zbeg_12]
      · intro q q0 q1
        rw [zbeg_10, bn] at q1
        have q1 : q < if 0 ≤ m.1 0 5 then n + 1 else n := q1
        unfold zbeg
        rw [bn]
        show _ = (if 0 ≤ m.1 0 5 then _ else _ : zSt).2 9 (128 * (t' : Int) + q)
        by_cases hE : 0 ≤ m.1 0 5
        · rw [if_pos hE] at q1 ⊢
          by_cases hq : q = n
          · subst hq
            rw [k3 hE]
            exact (zsF_A.trans ((zsA_ne1 (by omega)).trans ((zsA_ne1 (by omega)).trans ((zsA_ne1 (by omega)).trans zsA_eq)))).symm
          · rw [k2 q q0 (by omega)]
            refine (zsF_A.trans ((zsA_ne1 (by omega)).trans ((zsA_ne1 (by omega)).trans ((zsA_ne1 (by omega)).trans ((zsA_ne1 (by omega)).trans ((zsB_in (by omega) (by omega)).trans ?_)))))).symm
            show m.2 6 (120 * l + (128 * (t' : Int) + q - 128 * (t' : Int))) = m.2 6 (120 * l + q)
            rw [show 128 * (t' : Int) + q - 128 * (t' : Int) = q by omega]
        · rw [if_neg hE] at q1 ⊢
          rw [k2 q q0 (by omega)]
          refine (zsF_A.trans ((zsA_ne1 (by omega)).trans ((zsA_ne1 (by omega)).trans ((zsA_ne1 (by omega)).trans ((zsB_in (by omega) (by omega)).trans ?_))))).symm
          show m.2 6 (120 * l + (128 * (t' : Int) + q - 128 * (t' : Int))) = m.2 6 (120 * l + q)
          rw [show 128 * (t' : Int) + q - 128 * (t' : Int) = q by omega]
    · have hlt : t' < t := by omega
      refine zLv_cg (hl t' q) (fun j q1 q2 => g1 _ _ (by omega) (by omega)) (k1 _ (by omega)) (fun i hi => ?_) (fun q q0 q1 => ?_)
      · refine (zbeg_ne (by omega) (by omega)).trans ?_
        by_cases h8 : i = 8
        · subst h8; exact zsA_ne1 (by omega)
        · exact zsA_ne1 (by omega)
      · have := hb t'
        exact zbeg_9 (by have e : zbn (zsA m 8 t (m.2 8 t + 1)) l = n := hn; rw [e]; omega) (by omega)

theorem zRel.arr {c c' m m' : zSt} {i k : Nat} (hp : (i = 8 ∧ k = 1) ∨ (i = 9 ∧ k = 2) ∨ (i = 2 ∧ k = 3) ∨ (i = 10 ∧ k = 4) ∨ (i = 11 ∧ k = 5) ∨ (i = 12 ∧ k = 6)) (h : zRel c m) (e1 : c'.1 = c.1) (e2 : m'.1 = m.1) (e3 : ∀ j, j ≠ i → c'.2 j = c.2 j) (e4 : ∀ j, j ≠ k → m'.2 j = m.2 j) (e5 : c'.2 i = m'.2 k) : zRel c' m' := by
  obtain ⟨hf, ⟨a1, a2, a3, a4, a5, a6, a7, a8, a9, a10⟩, hl⟩ := h
  refine ⟨by unfold zRf at hf ⊢; rw [e1, e2]; exact hf, ?_, fun t q => ?_⟩
  · rcases hp with ⟨rfl, rfl⟩ | ⟨rfl, rfl⟩ | ⟨rfl, rfl⟩ | ⟨rfl, rfl⟩ | ⟨rfl, rfl⟩ | ⟨rfl, rfl⟩ <;> refine ⟨?_, ?_, ?_, ?_, ?_, ?_, ?_, ?_, ?_, ?_⟩ <;> first | exact e5 | exact (e3 _ (by decide)).trans (Eq.trans (by assumption) (e4 _ (by decide)).symm)
  · rw [e2] at q
    exact zLv_cg (hl t q) (fun _ _ _ => by rw [e1]) (e3 _ (by omega)) (fun j hj => by rw [e4 j (by omega)]) (fun _ _ _ => by rw [e4 9 (by omega)])
theorem zRel.fld {c m : zSt} {i j a b : Nat} {x : Int} (hp : (i = 1 ∧ j = 2 ∧ a = 0 ∧ b = 3) ∨ (i = 3 ∧ j = 3 ∧ a = 0 ∧ b = 6) ∨ (i = 0 ∧ j = 8 ∧ a = 0 ∧ b = 5)) (h : zRel c m) : zRel (zsF c i j x) (zsF m a b x) := by
  obtain ⟨⟨f1, f2, f3, f4, f5, f6, f7, f8⟩, ha, hl⟩ := h
  rcases hp with ⟨rfl, rfl, rfl, rfl⟩ | ⟨rfl, rfl, rfl, rfl⟩ | ⟨rfl, rfl, rfl, rfl⟩ <;> exact ⟨⟨by first | exact zsF_eq.trans zsF_eq.symm | exact (zsF_ne (by decide)).trans (f1.trans (zsF_ne (by decide)).symm), by first | exact zsF_eq.trans zsF_eq.symm | exact (zsF_ne (by decide)).trans (f2.trans (zsF_ne (by decide)).symm), (zsF_ne (by decide)).trans (f3.trans (zsF_ne (by decide)).symm), (zsF_ne (by decide)).trans (f4.trans (zsF_ne (by decide)).symm), (zsF_ne (by decide)).trans (f5.trans (zsF_ne (by decide)).symm), (zsF_ne (by decide)).trans (f6.trans (zsF_ne (by decide)).symm), by first | exact zsF_eq.trans zsF_eq.symm | exact (zsF_ne (by decide)).trans (f7.trans (zsF_ne (by decide)).symm), (zsF_ne (by decide)).trans (f8.trans (zsF_ne (by decide)).symm)⟩, ha, fun t q => zLv_cg (hl t q) (fun _ _ _ => zsF_ne (by omega)) rfl (fun _ _ => rfl) (fun _ _ _ => rfl)⟩
theorem zRel.A1 {c m : zSt} {i k : Nat} {z x : Int} (hp : (i = 8 ∧ k = 1) ∨ (i = 9 ∧ k = 2) ∨ (i = 2 ∧ k = 3) ∨ (i = 10 ∧ k = 4) ∨ (i = 11 ∧ k = 5) ∨ (i = 12 ∧ k = 6)) (h : zRel c m) (e : c.2 i = m.2 k) : zRel (zsA c i z x) (zsA m k z x) :=
  h.arr hp rfl rfl (fun _ q => zsA_arr q) (fun _ q => zsA_arr q) (zAeq e)
theorem zRel.catS {c m : zSt} {s n x : Int} (h : zRel c m) : zRel (zsS c 9 s n x) (zsS m 2 s n x) := by
  refine h.arr (i := 9) (k := 2) (by omega) rfl rfl (fun _ q => zsS_arr q) (fun _ q => zsS_arr q) ?_
  funext z
  show (if 9 = 9 ∧ s ≤ z ∧ (z - s) % 256 = 0 ∧ z < s + 256 * n then x else c.2 9 z) = if 2 = 2 ∧ s ≤ z ∧ (z - s) % 256 = 0 ∧ z < s + 256 * n then x else m.2 2 z
  rw [h.2.1.2.1]
  by_cases q : s ≤ z ∧ (z - s) % 256 = 0 ∧ z < s + 256 * n
  · rw [if_pos ⟨rfl, q⟩, if_pos ⟨rfl, q⟩]
  · rw [if_neg (fun e => q e.2), if_neg (fun e => q e.2)]
theorem zRel.grp1 {c m : zSt} {g : Int} (h : zRel c m) : zRel (zsC c 8 0 9 (g * 256) 256) (zsB m 2 (256 * g) 256 (m.2 1)) := by
  refine h.arr (i := 9) (k := 2) (by omega) rfl rfl (fun _ q => zsC_arr q) (fun _ q => zsB_arr q) ?_
  funext z
  show (if 9 = 9 ∧ g * 256 ≤ z ∧ z < g * 256 + 256 then c.2 8 (0 + (z - g * 256)) else c.2 9 z) = if 2 = 2 ∧ 256 * g ≤ z ∧ z < 256 * g + 256 then m.2 1 (z - 256 * g) else m.2 2 z
  rw [h.2.1.2.1, h.2.1.1, show g * 256 = 256 * g by omega, Int.zero_add]
  by_cases q : 256 * g ≤ z ∧ z < 256 * g + 256
  · rw [if_pos ⟨rfl, q⟩, if_pos ⟨rfl, q⟩]
  · rw [if_neg (fun e => q e.2), if_neg (fun e => q e.2)]
theorem zRel.grp2 {c m : zSt} {g : Int} {G9 : Int → Int} (h : zRel c m) (hG : ∀ z, 0 ≤ z → z < 256 → G9 z = m.2 2 (256 * g + z)) : zRel (zsC c 9 (g * 256) 8 0 256) (zsB m 1 0 256 G9) := by
  refine h.arr (i := 8) (k := 1) (by omega) rfl rfl (fun _ q => zsC_arr q) (fun _ q => zsB_arr q) ?_
  funext z
  show (if 8 = 8 ∧ 0 ≤ z ∧ z < 0 + 256 then c.2 9 (g * 256 + (z - 0)) else c.2 8 z) = if 1 = 1 ∧ 0 ≤ z ∧ z < 0 + 256 then G9 (z - 0) else m.2 1 z
  rw [h.2.1.2.1, h.2.1.1, show g * 256 = 256 * g by omega]
  by_cases q : 0 ≤ z ∧ z < 0 + 256
  · rw [if_pos ⟨rfl, q⟩, if_pos ⟨rfl, q⟩, hG _ (by omega) (by omega)]
  · rw [if_neg (fun e => q e.2), if_neg (fun e => q e.2)]
theorem zRel.addB {c m : zSt} {b n : Int} {g g' : Int → Int} (h : zRel c m) (hg : ∀ q, 0 ≤ q → q < n → g q = g' q) : zRel (zsB c 12 b n g) (zsB m 6 b n g') := by
  refine h.arr (i := 12) (k := 6) (by omega) rfl rfl (fun _ q => zsB_arr q) (fun _ q => zsB_arr q) ?_
  funext z
  show (if 12 = 12 ∧ b ≤ z ∧ z < b + n then g (z - b) else c.2 12 z) = if 6 = 6 ∧ b ≤ z ∧ z < b + n then g' (z - b) else m.2 6 z
  rw [h.2.1.2.2.2.2.2.1]
  by_cases q : b ≤ z ∧ z < b + n
  · rw [if_pos ⟨rfl, q⟩, if_pos ⟨rfl, q⟩, hg _ (by omega) (by omega)]
  · rw [if_neg (fun e => q e.2), if_neg (fun e => q e.2)]
theorem zRel.opn {c m : zSt} {t : Nat} {f x : Int} (h : zRel c m) (ht : t < 6) (hT : m.1 0 10 = (t : Int)) (hx : x = (t : Int) + 1) : zRel (zsF (zsF (zsF (zsF (zsF c (18 + t) 1 f) (18 + t) 2 0) (18 + t) 3 0) (18 + t) 4 0) 0 7 x) (zsF (zsA (zsA (zsA (zsA m 7 t f) 8 t (-1)) 12 t (-1)) 13 t 0) 0 10 x) := by
  obtain ⟨⟨f1, f2, f3, f4, f5, f6, f7, f8⟩, ⟨a1, a2, a3, a4, a5, a6, a7, a8, a9, a10⟩, hl⟩ := h
  have cF : ∀ i j, ¬ i = 18 + t → ¬ (i = 0 ∧ j = 7) → (zsF (zsF (zsF (zsF (zsF c (18 + t) 1 f) (18 + t) 2 0) (18 + t) 3 0) (18 + t) 4 0) 0 7 x).1 i j = c.1 i j := fun i j q1 q2 => (zsF_ne (by omega)).trans ((zsF_ne (by omega)).trans ((zsF_ne (by omega)).trans ((zsF_ne (by omega)).trans (zsF_ne (by omega)))))
  have mF : ∀ i j, ¬ (i = 0 ∧ j = 10) → (zsF (zsA (zsA (zsA (zsA m 7 t f) 8 t (-1)) 12 t (-1)) 13 t 0) 0 10 x).1 i j = m.1 i j := fun i j q => zsF_ne q
  have mA : ∀ i, i ≠ 7 ∧ i ≠ 8 ∧ i ≠ 12 ∧ i ≠ 13 → (zsF (zsA (zsA (zsA (zsA m 7 t f) 8 t (-1)) 12 t (-1)) 13 t 0) 0 10 x).2 i = m.2 i := fun i q => (zsA_arr q.2.2.2).trans ((zsA_arr q.2.2.1).trans ((zsA_arr q.2.1).trans (zsA_arr q.1)))
  refine ⟨⟨?_, ?_, ?_, ?_, ?_, zsF_eq.trans zsF_eq.symm, ?_, ?_⟩, ⟨?_, ?_, ?_, ?_, ?_, ?_, ?_, ?_, ?_, ?_⟩, fun t' q => ?_⟩
  · rw [cF _ _ (by omega) (by omega), mF _ _ (by omega)]; exact f1
  · rw [cF _ _ (by omega) (by omega), mF _ _ (by omega)]; exact f2
  · rw [cF _ _ (by omega) (by omega), mF _ _ (by omega)]; exact f3
  · rw [cF _ _ (by omega) (by omega), mF _ _ (by omega)]; exact f4
  · rw [cF _ _ (by omega) (by omega), mF _ _ (by omega)]; exact f5
  · rw [cF _ _ (by omega) (by omega), mF _ _ (by omega)]; exact f7
  · rw [cF _ _ (by omega) (by omega), mF _ _ (by omega)]; exact f8
  · exact a1.trans (mA 1 (by omega)).symm
  · exact a2.trans (mA 2 (by omega)).symm
  · exact a3.trans (mA 3 (by omega)).symm
  · exact a4.trans (mA 4 (by omega)).symm
  · exact a5.trans (mA 5 (by omega)).symm
  · exact a6.trans (mA 6 (by omega)).symm
  · exact a7.trans (mA 15 (by omega)).symm
  · exact a8.trans (mA 16 (by omega)).symm
  · exact a9.trans (mA 14 (by omega)).symm
  · exact a10.trans (mA 17 (by omega)).symm
  · have q : (t' : Int) < x := Int.lt_of_lt_of_le q (Int.le_of_eq zsF_eq)
    by_cases e : t' = t
    · subst e
      refine ⟨⟨?_, ?_, ?_⟩, Or.inl ⟨?_, ?_⟩⟩
      · exact ((zsF_ne (by omega)).trans ((zsF_ne (by omega)).trans ((zsF_ne (by omega)).trans ((zsF_ne (by omega)).trans zsF_eq)))).trans (zsF_A.trans ((zsA_ne1 (by omega)).trans ((zsA_ne1 (by omega)).trans ((zsA_ne1 (by omega)).trans zsA_eq)))).symm
      · have e8 : (zsF (zsA (zsA (zsA (zsA m 7 t' f) 8 t' (-1)) 12 t' (-1)) 13 t' 0) 0 10 x).2 8 t' = -1 := zsF_A.trans ((zsA_ne1 (by omega)).trans ((zsA_ne1 (by omega)).trans zsA_eq))
        rw [e8]
        exact (zsF_ne (by omega)).trans ((zsF_ne (by omega)).trans ((zsF_ne (by omega)).trans zsF_eq))
      · exact ((zsF_ne (by omega)).trans ((zsF_ne (by omega)).trans zsF_eq)).trans (zsF_A.trans zsA_eq).symm
      · have e8 : (zsF (zsA (zsA (zsA (zsA m 7 t' f) 8 t' (-1)) 12 t' (-1)) 13 t' 0) 0 10 x).2 12 t' = -1 := zsF_A.trans ((zsA_ne1 (by omega)).trans zsA_eq)
        rw [e8]; decide
      · exact (zsF_ne (by omega)).trans zsF_eq
    · exact zLv_cg (hl t' (by omega)) (fun j q1 q2 => cF _ _ (by omega) (by omega)) rfl (fun i _ => zsF_A.trans ((zsA_ne1 (by omega)).trans ((zsA_ne1 (by omega)).trans ((zsA_ne1 (by omega)).trans (zsA_ne1 (by omega)))))) (fun q _ _ => congrFun (mA 9 (by omega)) _)

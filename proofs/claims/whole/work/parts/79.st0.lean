theorem zM0_b (i : Nat) (q : Int) : 0 ≤ zM0.2 i q ∧ zM0.2 i q ≤ 114 := by
  simp only [zM0, zsA, zsB, zsF, zz0, zlet]
  repeat' split
  all_goals omega
theorem zM0_1 (q : Int) : 0 ≤ zM0.2 1 q ∧ zM0.2 1 q ≤ 15 := by
  simp only [zM0, zsA, zsB, zsF, zz0, zlet]
  repeat' split
  all_goals omega
theorem zM0_16 (q : Int) : 0 ≤ zM0.2 16 q ∧ zM0.2 16 q ≤ 40 := by
  simp only [zM0, zsA, zsB, zsF, zz0, zlet]
  repeat' split
  all_goals omega
theorem zM0_f (i j : Nat) : 0 ≤ zM0.1 i j ∧ zM0.1 i j ≤ 13 := by
  simp only [zM0, zsA, zsB, zsF, zz0]
  repeat' split
  all_goals omega
theorem zR_of {x a b : Int} (h : a ≤ x ∧ x ≤ b) (ha : -2147483648 ≤ a := by decide) (hb : b ≤ 2147483647 := by decide) : zR x := ⟨by omega, by omega⟩
theorem zM0_R : zRg zM0 := ⟨fun i j => zR_of (zM0_f i j), fun i q => zR_of (zM0_b i q)⟩
theorem zC0_f (i j : Nat) : 0 ≤ zC0.1 i j ∧ zC0.1 i j ≤ 13 := by
  simp only [zC0, zcatS, zS3, zsA, zsB, zsF, zz0]
  repeat' split
  all_goals omega
theorem zS3_b (i : Nat) (q : Int) : 0 ≤ zS3.2 i q ∧ zS3.2 i q ≤ 114 := by
  simp only [zS3, zsA, zsF, zz0]
  repeat' split
  all_goals omega
theorem zcatS_b (i : Nat) (q : Int) : 0 ≤ zcatS.2 i q ∧ zcatS.2 i q ≤ 114 := by
  simp only [zcatS, zsA, zsB, zz0, zlet]
  repeat' split
  all_goals omega
theorem zC0_b (i : Nat) (q : Int) : 0 ≤ zC0.2 i q ∧ zC0.2 i q ≤ 114 := by
  have h1 := zcatS_b 1 q
  have h2 := zcatS_b 2 q
  have h3 := zS3_b 1 q
  have h4 := zS3_b 2 q
  have h5 := zS3_b 3 q
  simp only [zC0]
  repeat' split
  all_goals omega
theorem zC0_R : zRg zC0 := ⟨fun i j => zR_of (zC0_f i j), fun i q => zR_of (zC0_b i q)⟩
theorem zInv_0 : zInv 0 zM0 := by
  unfold zInv
  refine ⟨?_, ?_, ?_, ?_, ?_, ?_, ?_, ?_, zM0_1, ?_, ?_, ?_, ?_, ?_, ?_, zM0_16, fun q => ?_, ?_, ?_, ?_, ?_, ?_⟩
  · show (0:Int) ≤ 0 ∧ (0:Int) ≤ 20; decide
  · show (0:Int) ≤ 0 ∧ (0:Int) ≤ 8; decide
  · show (0:Int) ≤ 0 ∧ (0:Int) ≤ 6; decide
  · show (0:Int) ≤ 0 ∧ (0:Int) ≤ 600; decide
  · show (1:Int) ≤ 1 ∧ (1:Int) ≤ 150; decide
  · show (-1:Int) ≤ 13 ∧ (13:Int) ≤ 255; decide
  · show (0:Int) ≤ 0 ∧ (0:Int) ≤ 0; decide
  · show (0:Int) ≤ 0 ∧ (0:Int) ≤ 0; decide
  · exact fun q => (show (0:Int) ≤ 0 ∧ (0:Int) ≤ 15 by decide)
  · exact fun q => (show (0:Int) ≤ 0 ∧ (0:Int) ≤ 1 by decide)
  · exact fun q => (show (0:Int) ≤ 0 ∧ (0:Int) ≤ 30 by decide)
  · exact fun q => (show (0:Int) ≤ 0 ∧ (0:Int) ≤ 120 by decide)
  · exact fun q => (show (0:Int) ≤ 0 ∧ (0:Int) ≤ 255 by decide)
  · exact fun q => (show (0:Int) ≤ 0 ∧ (0:Int) ≤ 255 by decide)
  · have := zM0_b 15 q; omega
  · exact fun q => (show (0:Int) ≤ 0 ∧ (0:Int) ≤ 255 by decide)
  · exact fun q => (show (0:Int) ≤ 0 ∧ (0:Int) ≤ 0 ∧ (0:Int) ≤ 121 ∧ (-1:Int) ≤ 0 ∧ (0:Int) ≤ 2 ∧ (0:Int) ≤ 0 ∧ (0:Int) ≤ 1 by decide)
  · intro t h0 h1
    have h1 : t < 0 := h1
    omega
  · intro a b h0 h1 h2
    have h2 : a < 1 := h2
    omega
  · intro i h0 h1
    have h1 : i < 0 := h1
    omega
theorem zRel_0 : zRel zC0 zM0 := by
  refine ⟨⟨rfl, rfl, rfl, rfl, rfl, rfl, rfl, rfl⟩, ⟨?_, ?_, ?_, ?_, ?_, ?_, ?_, ?_, ?_, ?_⟩, fun t ht => ?_⟩
  · funext z; rfl
  · funext z; rfl
  · funext z; rfl
  · funext z; rfl
  · funext z; rfl
  · funext z; rfl
  · funext z
    show zS3.2 1 z = zM0.2 15 z
    simp [zM0, zS3, zsA, zsB, zsF, zz0]
  · funext z
    show zS3.2 2 z = zM0.2 16 z
    simp [zM0, zS3, zsA, zsB, zsF, zz0]
  · funext z; rfl
  · funext z; rfl
  · have : (t : Int) < 0 := ht
    omega
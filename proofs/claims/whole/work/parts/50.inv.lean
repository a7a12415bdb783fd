theorem zA_rg {σ : zSt} {i : Nat} {z x lo hi : Int} (h : ∀ q, lo ≤ σ.2 i q ∧ σ.2 i q ≤ hi) (hx : lo ≤ x ∧ x ≤ hi) : ∀ q, lo ≤ (zsA σ i z x).2 i q ∧ (zsA σ i z x).2 i q ≤ hi := fun q => by
  show lo ≤ (if i = i ∧ q = z then x else σ.2 i q) ∧ (if i = i ∧ q = z then x else σ.2 i q) ≤ hi
  split
  · exact hx
  · exact h q
theorem zB_rg {σ : zSt} {c : Nat} {b n lo hi : Int} {g : Int → Int} (h : ∀ q, lo ≤ σ.2 c q ∧ σ.2 c q ≤ hi) (hg : ∀ q, lo ≤ g q ∧ g q ≤ hi) : ∀ q, lo ≤ (zsB σ c b n g).2 c q ∧ (zsB σ c b n g).2 c q ≤ hi := fun q => by
  show lo ≤ (if c = c ∧ b ≤ q ∧ q < b + n then g (q - b) else σ.2 c q) ∧ (if c = c ∧ b ≤ q ∧ q < b + n then g (q - b) else σ.2 c q) ≤ hi
  split
  · exact hg _
  · exact h q
theorem zS_rg {σ : zSt} {c : Nat} {s n x lo hi : Int} (h : ∀ q, lo ≤ σ.2 c q ∧ σ.2 c q ≤ hi) (hx : lo ≤ x ∧ x ≤ hi) : ∀ q, lo ≤ (zsS σ c s n x).2 c q ∧ (zsS σ c s n x).2 c q ≤ hi := fun q => by
  show lo ≤ (if c = c ∧ s ≤ q ∧ (q - s) % 256 = 0 ∧ q < s + 256 * n then x else σ.2 c q) ∧ (if c = c ∧ s ≤ q ∧ (q - s) % 256 = 0 ∧ q < s + 256 * n then x else σ.2 c q) ≤ hi
  split
  · exact hx
  · exact h q
theorem zInv_mono {N N' : Int} {σ : zSt} (h : zInv N σ) (hN : N ≤ N') : zInv N' σ := by
  obtain ⟨h1, h2, h3, h4, h5, h6, h7, h8, h9⟩ := h
  exact ⟨h1, h2, h3, h4, h5, h6, ⟨h7.1, Int.le_trans h7.2 hN⟩, ⟨h8.1, Int.le_trans h8.2 hN⟩, h9⟩
theorem zInv_eqM {N : Int} {σ σ' : zSt} (h : zInv N σ) (e : eqM σ' σ) : zInv N σ' := by
  unfold zInv at h ⊢
  rw [e.1 0 3 zN3, e.1 0 6 zN6, e.1 0 10 zN10, e.1 0 19 zN19, e.1 0 21 zN21, e.1 0 5 zN5, e.1 0 24 zN24, e.1 0 18 zN18, e.2 1, e.2 2, e.2 3, e.2 4, e.2 5, e.2 6, e.2 9, e.2 16, e.2 15, e.2 18, e.2 11, e.2 10, e.2 12, e.2 13, e.2 7, e.2 8, e.2 14]
  exact h

set_option maxRecDepth 10000 in
theorem inv_cat {N : Int} {σ : zSt} (hI : zInv N σ) (s c : Int) (hc : 0 ≤ c ∧ c ≤ 15) : zInv N (zsA σ 1 s c) := by
  obtain ⟨hgr, hfi, hle, hto, hna, hes, htl, hbg, hca, hsa, hme, hlc, hln, hsg, hrw, hnl, hns, hwd, hlv, hlf, hdi, htk⟩ := hI
  exact ⟨hgr, hfi, hle, hto, hna, hes, htl, hbg, zA_rg hca hc, hsa, hme, hlc, hln, hsg, hrw, hnl, hns, hwd, hlv, hlf, hdi, htk⟩
set_option maxRecDepth 10000 in
theorem inv_catS {N : Int} {σ : zSt} (hI : zInv N σ) (s n c : Int) (hc : 0 ≤ c ∧ c ≤ 15) : zInv N (zsS σ 2 s n c) := by
  obtain ⟨hgr, hfi, hle, hto, hna, hes, htl, hbg, hca, hsa, hme, hlc, hln, hsg, hrw, hnl, hns, hwd, hlv, hlf, hdi, htk⟩ := hI
  exact ⟨hgr, hfi, hle, hto, hna, hes, htl, hbg, hca, zS_rg hsa hc, hme, hlc, hln, hsg, hrw, hnl, hns, hwd, hlv, hlf, hdi, htk⟩
set_option maxRecDepth 10000 in
theorem inv_grp1 {N : Int} {σ : zSt} (hI : zInv N σ) (b n : Int) : zInv N (zsB σ 2 b n (σ.2 1)) := by
  obtain ⟨hgr, hfi, hle, hto, hna, hes, htl, hbg, hca, hsa, hme, hlc, hln, hsg, hrw, hnl, hns, hwd, hlv, hlf, hdi, htk⟩ := hI
  exact ⟨hgr, hfi, hle, hto, hna, hes, htl, hbg, hca, zB_rg hsa hca, hme, hlc, hln, hsg, hrw, hnl, hns, hwd, hlv, hlf, hdi, htk⟩
set_option maxRecDepth 10000 in
theorem inv_grp2 {N : Int} {σ : zSt} (hI : zInv N σ) (b n : Int) : zInv N (zsB σ 1 0 n (fun q => σ.2 2 (b + q))) := by
  obtain ⟨hgr, hfi, hle, hto, hna, hes, htl, hbg, hca, hsa, hme, hlc, hln, hsg, hrw, hnl, hns, hwd, hlv, hlf, hdi, htk⟩ := hI
  exact ⟨hgr, hfi, hle, hto, hna, hes, htl, hbg, zB_rg hca (fun q => hsa _), hsa, hme, hlc, hln, hsg, hrw, hnl, hns, hwd, hlv, hlf, hdi, htk⟩
set_option maxRecDepth 10000 in
theorem inv_grpF {N : Int} {σ : zSt} (hI : zInv N σ) (x : Int) (hx : 0 ≤ x ∧ x ≤ 20) : zInv N (zsF σ 0 3 x) := by
  obtain ⟨hgr, hfi, hle, hto, hna, hes, htl, hbg, hca, hsa, hme, hlc, hln, hsg, hrw, hnl, hns, hwd, hlv, hlf, hdi, htk⟩ := hI
  exact ⟨hx, hfi, hle, hto, hna, hes, htl, hbg, hca, hsa, hme, hlc, hln, hsg, hrw, hnl, hns, hwd, hlv, hlf, hdi, htk⟩
set_option maxRecDepth 10000 in
theorem inv_end {N : Int} {σ : zSt} (hI : zInv N σ) (x : Int) (hx : -1 ≤ x ∧ x ≤ 255) : zInv N (zsF σ 0 5 x) := by
  obtain ⟨hgr, hfi, hle, hto, hna, hes, htl, hbg, hca, hsa, hme, hlc, hln, hsg, hrw, hnl, hns, hwd, hlv, hlf, hdi, htk⟩ := hI
  exact ⟨hgr, hfi, hle, hto, hna, hx, htl, hbg, hca, hsa, hme, hlc, hln, hsg, hrw, hnl, hns, hwd, hlv, hlf, hdi, htk⟩
set_option maxRecDepth 10000 in
theorem inv_mean {N : Int} {σ : zSt} (hI : zInv N σ) (s b : Int) (hb : 0 ≤ b ∧ b ≤ 1) : zInv N (zsA σ 3 s b) := by
  obtain ⟨hgr, hfi, hle, hto, hna, hes, htl, hbg, hca, hsa, hme, hlc, hln, hsg, hrw, hnl, hns, hwd, hlv, hlf, hdi, htk⟩ := hI
  exact ⟨hgr, hfi, hle, hto, hna, hes, htl, hbg, hca, hsa, zA_rg hme hb, hlc, hln, hsg, hrw, hnl, hns, hwd, hlv, hlf, hdi, htk⟩
set_option maxRecDepth 10000 in
theorem inv_file {N : Int} {σ : zSt} (hI : zInv N σ) (h8 : σ.1 0 6 < 8) : zInv N (zsF σ 0 6 (σ.1 0 6 + 1)) := by
  obtain ⟨hgr, hfi, hle, hto, hna, hes, htl, hbg, hca, hsa, hme, hlc, hln, hsg, hrw, hnl, hns, hwd, hlv, hlf, hdi, htk⟩ := hI
  exact ⟨hgr, ⟨by show 0 ≤ σ.1 0 6 + 1; omega, by show σ.1 0 6 + 1 ≤ 8; omega⟩, hle, hto, hna, hes, htl, hbg, hca, hsa, hme, hlc, hln, hsg, hrw, hnl, hns, hwd, hlv, (fun t q0 q1 => by have := hlf t q0 q1; exact ⟨this.1, by show σ.2 7 t < σ.1 0 6 + 1; omega, this.2.2⟩), hdi, htk⟩
set_option maxRecDepth 10000 in
theorem inv_line {N : Int} {σ : zSt} (hI : zInv N σ) (f : Int) (h30 : σ.2 4 f < 30) : zInv N (zsA σ 4 f (σ.2 4 f + 1)) := by
  obtain ⟨hgr, hfi, hle, hto, hna, hes, htl, hbg, hca, hsa, hme, hlc, hln, hsg, hrw, hnl, hns, hwd, hlv, hlf, hdi, htk⟩ := hI
  exact ⟨hgr, hfi, hle, hto, hna, hes, htl, hbg, hca, hsa, hme, zA_rg hlc ⟨by have := hlc f; omega, by omega⟩, hln, hsg, hrw, hnl, hns, hwd, hlv, (fun t q0 q1 => by
    have := hlf t q0 q1
    refine ⟨this.1, this.2.1, this.2.2.1, ?_⟩
    show σ.2 8 t < (zsA σ 4 f (σ.2 4 f + 1)).2 4 (σ.2 7 t)
    by_cases e : σ.2 7 t = f
    · rw [e, zsA_eq]; rw [e] at this; omega
    · rw [zsA_ne1 (fun z => e z.2)]; exact this.2.2.2), hdi, htk⟩
set_option maxRecDepth 10000 in
theorem inv_addB {N : Int} {σ : zSt} (hI : zInv N σ) (b n : Int) (g : Int → Int) (hg : ∀ q, 0 ≤ g q ∧ g q ≤ 255) : zInv N (zsB σ 6 b n g) := by
  obtain ⟨hgr, hfi, hle, hto, hna, hes, htl, hbg, hca, hsa, hme, hlc, hln, hsg, hrw, hnl, hns, hwd, hlv, hlf, hdi, htk⟩ := hI
  exact ⟨hgr, hfi, hle, hto, hna, hes, htl, hbg, hca, hsa, hme, hlc, hln, zB_rg hsg hg, hrw, hnl, hns, hwd, hlv, hlf, hdi, htk⟩
set_option maxRecDepth 10000 in
theorem inv_addL {N : Int} {σ : zSt} (hI : zInv N σ) (r x : Int) (hx : 0 ≤ x ∧ x ≤ 120) : zInv N (zsA σ 5 r x) := by
  obtain ⟨hgr, hfi, hle, hto, hna, hes, htl, hbg, hca, hsa, hme, hlc, hln, hsg, hrw, hnl, hns, hwd, hlv, hlf, hdi, htk⟩ := hI
  exact ⟨hgr, hfi, hle, hto, hna, hes, htl, hbg, hca, hsa, hme, hlc, zA_rg hln hx, hsg, hrw, hnl, hns, hwd, hlv, hlf, hdi, htk⟩
set_option maxRecDepth 10000 in
theorem inv_close {N : Int} {σ : zSt} (hI : zInv N σ) (t : Int) : zInv N (zsA σ 13 t 1) := by
  obtain ⟨hgr, hfi, hle, hto, hna, hes, htl, hbg, hca, hsa, hme, hlc, hln, hsg, hrw, hnl, hns, hwd, hlv, hlf, hdi, htk⟩ := hI
  exact ⟨hgr, hfi, hle, hto, hna, hes, htl, hbg, hca, hsa, hme, hlc, hln, hsg, hrw, hnl, hns, hwd, (fun q => by
    have := hlv q
    refine ⟨this.1, this.2.1, this.2.2.1, this.2.2.2.1, this.2.2.2.2.1, ?_⟩
    show 0 ≤ (if 13 = 13 ∧ q = t then 1 else σ.2 13 q) ∧ (if 13 = 13 ∧ q = t then 1 else σ.2 13 q) ≤ 1
    split
    · omega
    · exact this.2.2.2.2.2), hlf, hdi, htk⟩
set_option maxRecDepth 10000 in
theorem inv_A13 {N : Int} {σ : zSt} (hI : zInv N σ) (t x : Int) (hx : 0 ≤ x ∧ x ≤ 1) : zInv N (zsA σ 13 t x) := by
  obtain ⟨hgr, hfi, hle, hto, hna, hes, htl, hbg, hca, hsa, hme, hlc, hln, hsg, hrw, hnl, hns, hwd, hlv, hlf, hdi, htk⟩ := hI
  exact ⟨hgr, hfi, hle, hto, hna, hes, htl, hbg, hca, hsa, hme, hlc, hln, hsg, hrw, hnl, hns, hwd, (fun q => by
    have := hlv q
    refine ⟨this.1, this.2.1, this.2.2.1, this.2.2.2.1, this.2.2.2.2.1, ?_⟩
    show 0 ≤ (if 13 = 13 ∧ q = t then x else σ.2 13 q) ∧ (if 13 = 13 ∧ q = t then x else σ.2 13 q) ≤ 1
    split
    · omega
    · exact this.2.2.2.2.2), hlf, hdi, htk⟩
set_option maxRecDepth 10000 in
theorem inv_A12 {N : Int} {σ : zSt} (hI : zInv N σ) (t x : Int) (hx : -1 ≤ x ∧ x ≤ 2) : zInv N (zsA σ 12 t x) := by
  obtain ⟨hgr, hfi, hle, hto, hna, hes, htl, hbg, hca, hsa, hme, hlc, hln, hsg, hrw, hnl, hns, hwd, hlv, hlf, hdi, htk⟩ := hI
  exact ⟨hgr, hfi, hle, hto, hna, hes, htl, hbg, hca, hsa, hme, hlc, hln, hsg, hrw, hnl, hns, hwd, (fun q => by
    have := hlv q
    refine ⟨this.1, this.2.1, this.2.2.1, ?_⟩
    show -1 ≤ (if 12 = 12 ∧ q = t then x else σ.2 12 q) ∧ (if 12 = 12 ∧ q = t then x else σ.2 12 q) ≤ 2 ∧ _
    split
    · exact ⟨hx.1, hx.2, this.2.2.2.2.2⟩
    · exact this.2.2.2), hlf, hdi, htk⟩
set_option maxRecDepth 10000 in
theorem inv_A11 {N : Int} {σ : zSt} (hI : zInv N σ) (t x : Int) (hx : 0 ≤ x ∧ x ≤ σ.2 10 t) : zInv N (zsA σ 11 t x) := by
  obtain ⟨hgr, hfi, hle, hto, hna, hes, htl, hbg, hca, hsa, hme, hlc, hln, hsg, hrw, hnl, hns, hwd, hlv, hlf, hdi, htk⟩ := hI
  exact ⟨hgr, hfi, hle, hto, hna, hes, htl, hbg, hca, hsa, hme, hlc, hln, hsg, hrw, hnl, hns, hwd, (fun q => by
    have := hlv q
    refine ⟨?_, ?_, this.2.2⟩
    · show 0 ≤ (if 11 = 11 ∧ q = t then x else σ.2 11 q)
      split
      · exact hx.1
      · exact this.1
    · show (if 11 = 11 ∧ q = t then x else σ.2 11 q) ≤ σ.2 10 q
      split
      next e => rw [e.2]; exact hx.2
      next => exact this.2.1), hlf, hdi, htk⟩
set_option maxRecDepth 10000 in
theorem inv_pop {N : Int} {σ : zSt} (hI : zInv N σ) (x : Int) (hx : 0 ≤ x ∧ x ≤ σ.1 0 10) : zInv N (zsF σ 0 10 x) := by
  obtain ⟨hgr, hfi, hle, hto, hna, hes, htl, hbg, hca, hsa, hme, hlc, hln, hsg, hrw, hnl, hns, hwd, hlv, hlf, hdi, htk⟩ := hI
  exact ⟨hgr, hfi, ⟨hx.1, Int.le_trans hx.2 hle.2⟩, hto, hna, hes, htl, hbg, hca, hsa, hme, hlc, hln, hsg, hrw, hnl, hns, hwd, hlv, (fun t q0 q1 => hlf t q0 (Int.lt_of_lt_of_le q1 hx.2)), hdi, htk⟩
set_option maxRecDepth 10000 in
theorem inv_A8 {N : Int} {σ : zSt} (hI : zInv N σ) (t : Int) (hx : σ.2 8 t + 1 < σ.2 4 (σ.2 7 t)) (h0 : -1 ≤ σ.2 8 t) : zInv N (zsA σ 8 t (σ.2 8 t + 1)) := by
  obtain ⟨hgr, hfi, hle, hto, hna, hes, htl, hbg, hca, hsa, hme, hlc, hln, hsg, hrw, hnl, hns, hwd, hlv, hlf, hdi, htk⟩ := hI
  exact ⟨hgr, hfi, hle, hto, hna, hes, htl, hbg, hca, hsa, hme, hlc, hln, hsg, hrw, hnl, hns, hwd, hlv, (fun q q0 q1 => by
    have := hlf q q0 q1
    refine ⟨this.1, this.2.1, ?_⟩
    show -1 ≤ (if 8 = 8 ∧ q = t then σ.2 8 t + 1 else σ.2 8 q) ∧ (if 8 = 8 ∧ q = t then σ.2 8 t + 1 else σ.2 8 q) < σ.2 4 (σ.2 7 q)
    split
    next e => rw [e.2]; omega
    next => exact this.2.2), hdi, htk⟩
set_option maxRecDepth 10000 in
theorem inv_told {N : Int} {σ : zSt} (hI : zInv N σ)  : zInv (N + 1) (zsF σ 0 24 (σ.1 0 24 + 1)) := by
  obtain ⟨hgr, hfi, hle, hto, hna, hes, htl, hbg, hca, hsa, hme, hlc, hln, hsg, hrw, hnl, hns, hwd, hlv, hlf, hdi, htk⟩ := hI
  exact ⟨hgr, hfi, hle, hto, hna, hes, ⟨by show 0 ≤ σ.1 0 24 + 1; omega, by show σ.1 0 24 + 1 ≤ N + 1; omega⟩, ⟨hbg.1, Int.le_trans hbg.2 (by omega)⟩, hca, hsa, hme, hlc, hln, hsg, hrw, hnl, hns, hwd, hlv, hlf, hdi, htk⟩
set_option maxRecDepth 10000 in
theorem inv_rp {N : Int} {σ : zSt} (hI : zInv N σ) (b v0 v1 v2 : Int) : zInv N (zrp σ 17 b v0 v1 v2) := by
  obtain ⟨hgr, hfi, hle, hto, hna, hes, htl, hbg, hca, hsa, hme, hlc, hln, hsg, hrw, hnl, hns, hwd, hlv, hlf, hdi, htk⟩ := hI
  exact ⟨hgr, hfi, hle, hto, hna, hes, htl, hbg, hca, hsa, hme, hlc, hln, hsg, hrw, hnl, hns, hwd, hlv, hlf, hdi, htk⟩
set_option maxRecDepth 10000 in
theorem inv_wA {N : Int} {σ : zSt} (hI : zInv N σ) (k s : Int) (hs : 0 ≤ s ∧ s ≤ 255) : zInv N (zsA σ 18 k s) := by
  obtain ⟨hgr, hfi, hle, hto, hna, hes, htl, hbg, hca, hsa, hme, hlc, hln, hsg, hrw, hnl, hns, hwd, hlv, hlf, hdi, htk⟩ := hI
  exact ⟨hgr, hfi, hle, hto, hna, hes, htl, hbg, hca, hsa, hme, hlc, hln, hsg, hrw, hnl, hns, zA_rg hwd hs, hlv, hlf, hdi, htk⟩
set_option maxRecDepth 10000 in
theorem inv_bg {N : Int} {σ : zSt} (hI : zInv N σ)  : zInv (N + 1) (zsF σ 0 18 (σ.1 0 18 + 1)) := by
  obtain ⟨hgr, hfi, hle, hto, hna, hes, htl, hbg, hca, hsa, hme, hlc, hln, hsg, hrw, hnl, hns, hwd, hlv, hlf, hdi, htk⟩ := hI
  exact ⟨hgr, hfi, hle, hto, hna, hes, ⟨htl.1, Int.le_trans htl.2 (by omega)⟩, ⟨by show 0 ≤ σ.1 0 18 + 1; omega, by show σ.1 0 18 + 1 ≤ N + 1; omega⟩, hca, hsa, hme, hlc, hln, hsg, hrw, hnl, hns, hwd, hlv, hlf, hdi, htk⟩
set_option maxRecDepth 10000 in
theorem inv_rowB {N : Int} {σ : zSt} (hI : zInv N σ) (b n : Int) (g : Int → Int) (hg : ∀ q, 0 ≤ g q ∧ g q ≤ 255) : zInv N (zsB σ 9 b n g) := by
  obtain ⟨hgr, hfi, hle, hto, hna, hes, htl, hbg, hca, hsa, hme, hlc, hln, hsg, hrw, hnl, hns, hwd, hlv, hlf, hdi, htk⟩ := hI
  exact ⟨hgr, hfi, hle, hto, hna, hes, htl, hbg, hca, hsa, hme, hlc, hln, hsg, zB_rg hrw hg, hnl, hns, hwd, hlv, hlf, hdi, htk⟩
set_option maxRecDepth 10000 in
theorem inv_rowA {N : Int} {σ : zSt} (hI : zInv N σ) (z x : Int) (hx : 0 ≤ x ∧ x ≤ 255) : zInv N (zsA σ 9 z x) := by
  obtain ⟨hgr, hfi, hle, hto, hna, hes, htl, hbg, hca, hsa, hme, hlc, hln, hsg, hrw, hnl, hns, hwd, hlv, hlf, hdi, htk⟩ := hI
  exact ⟨hgr, hfi, hle, hto, hna, hes, htl, hbg, hca, hsa, hme, hlc, hln, hsg, zA_rg hrw hx, hnl, hns, hwd, hlv, hlf, hdi, htk⟩
set_option maxRecDepth 10000 in
theorem inv_A1011 {N : Int} {σ : zSt} (hI : zInv N σ) (t n : Int) (hn : 0 ≤ n ∧ n ≤ 121) : zInv N (zsA (zsA σ 10 t n) 11 t 0) := by
  obtain ⟨hgr, hfi, hle, hto, hna, hes, htl, hbg, hca, hsa, hme, hlc, hln, hsg, hrw, hnl, hns, hwd, hlv, hlf, hdi, htk⟩ := hI
  exact ⟨hgr, hfi, hle, hto, hna, hes, htl, hbg, hca, hsa, hme, hlc, hln, hsg, hrw, hnl, hns, hwd, (fun q => by
    have := hlv q
    refine ⟨?_, ?_, ?_, this.2.2.2⟩
    · show 0 ≤ (if 11 = 11 ∧ q = t then 0 else σ.2 11 q)
      split
      · omega
      · exact this.1
    · show (if 11 = 11 ∧ q = t then 0 else σ.2 11 q) ≤ (if 10 = 10 ∧ q = t then n else σ.2 10 q)
      by_cases e : q = t
      · rw [if_pos ⟨rfl, e⟩, if_pos ⟨rfl, e⟩]; exact hn.1
      · rw [if_neg (fun z => e z.2), if_neg (fun z => e z.2)]; exact this.2.1
    · show (if 10 = 10 ∧ q = t then n else σ.2 10 q) ≤ 121
      split
      · exact hn.2
      · exact this.2.2.1), hlf, hdi, htk⟩
set_option maxRecDepth 10000 in
theorem inv_keep {N : Int} {σ : zSt} (hI : zInv N σ) (T k v c p : Int) (hto9 : σ.1 0 19 < 600) (hv : k = 1 → 0 ≤ v ∧ v < σ.1 0 21) : zInv N (zkeep σ T k v c p) := by
  obtain ⟨hgr, hfi, hle, hto, hna, hes, htl, hbg, hca, hsa, hme, hlc, hln, hsg, hrw, hnl, hns, hwd, hlv, hlf, hdi, htk⟩ := hI
  exact ⟨hgr, hfi, hle, ⟨by show 0 ≤ σ.1 0 19 + 1; omega, by show σ.1 0 19 + 1 ≤ 600; omega⟩, hna, hes, htl, hbg, hca, hsa, hme, hlc, hln, hsg, hrw, hnl, hns, hwd, hlv, hlf, hdi, (fun i q0 q1 => by
    have q1 : i < σ.1 0 19 + 1 := q1
    have key : ∀ j : Int, j < 6 * σ.1 0 19 → (zkeep σ T k v c p).2 14 j = σ.2 14 j := fun j hj => by
      refine (zsA_ne1 (by omega)).trans ((zsA_ne1 (by omega)).trans ((zsA_ne1 (by omega)).trans ((zsA_ne1 (by omega)).trans ((zsA_ne1 (by omega)).trans (zsA_ne1 (by omega))))))
    rcases Decidable.em (i < σ.1 0 19) with hi | hi
    · rw [key _ (by omega), key _ (by omega)]; exact htk i q0 hi
    · have e : i = σ.1 0 19 := by omega
      subst e
      have a0 : (zkeep σ T k v c p).2 14 (σ.1 0 19 * 6) = k := by
        rw [show σ.1 0 19 * 6 = 6 * σ.1 0 19 by omega]
        exact (zsA_ne1 (by omega)).trans ((zsA_ne1 (by omega)).trans ((zsA_ne1 (by omega)).trans ((zsA_ne1 (by omega)).trans ((zsA_ne1 (by omega)).trans zsA_eq))))
      have a1 : (zkeep σ T k v c p).2 14 (σ.1 0 19 * 6 + 1) = v := by
        rw [show σ.1 0 19 * 6 + 1 = 6 * σ.1 0 19 + 1 by omega]
        exact (zsA_ne1 (by omega)).trans ((zsA_ne1 (by omega)).trans ((zsA_ne1 (by omega)).trans ((zsA_ne1 (by omega)).trans zsA_eq)))
      rw [a0, a1]; exact hv)⟩
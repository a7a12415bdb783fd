theorem zB_rg2 {σ : zSt} {c : Nat} {b n lo hi : Int} {g : Int → Int} (h : ∀ q, lo ≤ σ.2 c q ∧ σ.2 c q ≤ hi) (hg : ∀ q, 0 ≤ q → q < n → lo ≤ g q ∧ g q ≤ hi) : ∀ q, lo ≤ (zsB σ c b n g).2 c q ∧ (zsB σ c b n g).2 c q ≤ hi := fun q => by
  show lo ≤ (if c = c ∧ b ≤ q ∧ q < b + n then g (q - b) else σ.2 c q) ∧ (if c = c ∧ b ≤ q ∧ q < b + n then g (q - b) else σ.2 c q) ≤ hi
  split
  next e => exact hg _ (by omega) (by omega)
  next => exact h q

set_option maxRecDepth 10000 in
theorem inv_addB2 {N : Int} {σ : zSt} (hI : zInv N σ) (b n : Int) (g : Int → Int) (hg : ∀ q, 0 ≤ q → q < n → 0 ≤ g q ∧ g q ≤ 255) : zInv N (zsB σ 6 b n g) := by
  obtain ⟨hgr, hfi, hle, hto, hna, hes, htl, hbg, hca, hsa, hme, hlc, hln, hsg, hrw, hnl, hns, hwd, hlv, hlf, hdi, htk⟩ := hI
  exact ⟨hgr, hfi, hle, hto, hna, hes, htl, hbg, hca, hsa, hme, hlc, hln, zB_rg2 hsg hg, hrw, hnl, hns, hwd, hlv, hlf, hdi, htk⟩
set_option maxRecDepth 10000 in
theorem inv_open {N : Int} {σ : zSt} (hI : zInv N σ) (f : Int) (hf0 : 0 ≤ f) (hf1 : f < σ.1 0 6) (h6 : σ.1 0 10 < 6) : zInv N (zsF (zsA (zsA (zsA (zsA σ 7 (σ.1 0 10) f) 8 (σ.1 0 10) (-1)) 12 (σ.1 0 10) (-1)) 13 (σ.1 0 10) 0) 0 10 (σ.1 0 10 + 1)) := by
  obtain ⟨hgr, hfi, hle, hto, hna, hes, htl, hbg, hca, hsa, hme, hlc, hln, hsg, hrw, hnl, hns, hwd, hlv, hlf, hdi, htk⟩ := hI
  exact ⟨hgr, hfi, ⟨by show 0 ≤ σ.1 0 10 + 1; omega, by show σ.1 0 10 + 1 ≤ 6; omega⟩, hto, hna, hes, htl, hbg, hca, hsa, hme, hlc, hln, hsg, hrw, hnl, hns, hwd, (fun q => by
    have := hlv q
    refine ⟨this.1, this.2.1, this.2.2.1, ?_⟩
    show -1 ≤ (if 12 = 12 ∧ q = σ.1 0 10 then -1 else σ.2 12 q) ∧ (if 12 = 12 ∧ q = σ.1 0 10 then -1 else σ.2 12 q) ≤ 2 ∧ 0 ≤ (if 13 = 13 ∧ q = σ.1 0 10 then 0 else σ.2 13 q) ∧ (if 13 = 13 ∧ q = σ.1 0 10 then 0 else σ.2 13 q) ≤ 1
    by_cases e : q = σ.1 0 10
    · rw [if_pos ⟨rfl, e⟩, if_pos ⟨rfl, e⟩]; omega
    · rw [if_neg (fun z => e z.2), if_neg (fun z => e z.2)]; exact this.2.2.2), (fun t q0 q1 => by
    have q1 : t < σ.1 0 10 + 1 := q1
    show 0 ≤ (if 7 = 7 ∧ t = σ.1 0 10 then f else σ.2 7 t) ∧ (if 7 = 7 ∧ t = σ.1 0 10 then f else σ.2 7 t) < σ.1 0 6 ∧ -1 ≤ (if 8 = 8 ∧ t = σ.1 0 10 then -1 else σ.2 8 t) ∧ (if 8 = 8 ∧ t = σ.1 0 10 then -1 else σ.2 8 t) < σ.2 4 (if 7 = 7 ∧ t = σ.1 0 10 then f else σ.2 7 t)
    by_cases e : t = σ.1 0 10
    · rw [if_pos ⟨rfl, e⟩, if_pos ⟨rfl, e⟩]; have := hlc f; omega
    · rw [if_neg (fun z => e z.2), if_neg (fun z => e z.2)]; exact hlf t q0 (by omega)), hdi, htk⟩
theorem inv_nx : ∀ (n : Nat) {N : Int} {σ : zSt}, zInv N σ → (0 < σ.1 0 10 → σ.1 0 19 < 600) → zInv (N + 2 * n) (znx n σ).2
  | 0, N, σ, hI, _ => zInv_mono hI (by omega)
  | n + 1, N, σ, hI, hto => by
    obtain ⟨s, hs⟩ : ∃ s, zhl (σ.1 0 10).toNat σ = s := ⟨_, rfl⟩
    obtain ⟨sI, sl0, sl1, smu, sst, sto⟩ := zhl_fact hI hs
    by_cases h0 : s.1 0 10 ≤ 0
    · rw [znx_a hs h0]; exact zInv_mono sI (by omega)
    · obtain ⟨T, hT⟩ : ∃ T, s.1 0 10 = T + 1 := ⟨s.1 0 10 - 1, by omega⟩
      by_cases hp : s.2 10 T ≤ s.2 11 T
      · rw [znx_b hs hT (by omega) hp]
        exact zInv_mono (inv_nx n (inv_A12 sI T (-1) (by omega)) (fun q => by have e : (zsA s 12 T (-1)).1 0 19 = s.1 0 19 := rfl; omega)) (by omega)
      · have gI := inv_give sI T (by omega) (by omega)
        by_cases hg : (zgive s T).1 = -1
        · rw [znx_c hs hT (by omega) (by omega) hg]
          have gr := (zgive_fr (σ := s) (T := T) sI.2.2.2.1.1).2 hg
          exact zInv_mono (inv_nx n gI (fun q => by omega)) (by omega)
        · rw [znx_d hs hT (by omega) (by omega) hg]; exact zInv_mono gI (by omega)
theorem inv_raw {N : Int} {σ : zSt} (hI : zInv N σ) (hto : 0 < σ.1 0 10 → σ.1 0 19 < 600) : zInv (N + 1) (zraw σ).2 := by
  obtain ⟨s, hs⟩ : ∃ s, zhl (σ.1 0 10).toNat σ = s := ⟨_, rfl⟩
  obtain ⟨sI, sl0, sl1, smu, sst, sto⟩ := zhl_fact hI hs
  by_cases h0 : s.1 0 10 ≤ 0
  · rw [zraw_a hs h0]; exact sI
  · obtain ⟨T, hT⟩ : ∃ T, s.1 0 10 = T + 1 := ⟨s.1 0 10 - 1, by omega⟩
    by_cases hp : s.2 10 T ≤ s.2 11 T
    · rw [zraw_b hs hT (by omega) hp]; exact inv_A12 sI T (-1) (by omega)
    · rw [zraw_c hs hT (by omega) (by omega)]
      have hlv := sI.2.2.2.2.2.2.2.2.2.2.2.2.2.2.2.2.2.2.1 T
      exact inv_keep (inv_A11 sI T _ ⟨by omega, by omega⟩) T 0 _ _ _ (by show s.1 0 19 < 600; omega) (fun e => absurd e (by decide))

set_option maxRecDepth 10000 in
theorem I_category {N : Int} {μ : zSt} (hI : zInv N μ) (s c g : Int) (hs : zR s) (hc : zR c) (hg : zR g) : zInv (N + 2000000) (r_category μ s c g).2 := by
  have hb := zInv_mono (N' := N + 2000000) hI (by omega)
  obtain ⟨hgr, hfi, hle, hto, hna, hes, htl, hbg, hca, hsa, hme, hlc, hln, hsg, hrw, hnl, hns, hwd, hlv, hlf, hdi, htk⟩ := id hI
  unfold r_category
  split
  next q => split
            · exact inv_cat hb _ _ ⟨q.2.2.1, by omega⟩
            · exact inv_catS (inv_cat hb _ _ ⟨q.2.2.1, by omega⟩) _ _ _ ⟨q.2.2.1, by omega⟩
  next => exact hb

set_option maxRecDepth 10000 in
theorem I_group {N : Int} {μ : zSt} (hI : zInv N μ) (b : Int) (hb : zR b) : zInv (N + 2000000) (r_group μ b).2 := by
  have hb := zInv_mono (N' := N + 2000000) hI (by omega)
  obtain ⟨hgr, hfi, hle, hto, hna, hes, htl, hbg, hca, hsa, hme, hlc, hln, hsg, hrw, hnl, hns, hwd, hlv, hlf, hdi, htk⟩ := id hI
  unfold r_group
  split
  · split
    · exact inv_grp2 (inv_grpF hb _ (by omega)) _ _
    · exact hb
  · split
    · exact inv_grpF (inv_grp1 hb _ _) _ (by omega)
    · exact hb

set_option maxRecDepth 10000 in
theorem I_endSign {N : Int} {μ : zSt} (hI : zInv N μ) (c : Int) (hc : zR c) : zInv (N + 2000000) (r_endSign μ c).2 := by
  have hb := zInv_mono (N' := N + 2000000) hI (by omega)
  obtain ⟨hgr, hfi, hle, hto, hna, hes, htl, hbg, hca, hsa, hme, hlc, hln, hsg, hrw, hnl, hns, hwd, hlv, hlf, hdi, htk⟩ := id hI
  unfold r_endSign
  split
  · exact inv_end hb _ (by omega)
  · exact hb

set_option maxRecDepth 10000 in
theorem I_meaning {N : Int} {μ : zSt} (hI : zInv N μ) (s b : Int) (hs : zR s) (hb : b = 0 ∨ b = 1) : zInv (N + 2000000) (r_meaning μ s b).2 := by
  have hb := zInv_mono (N' := N + 2000000) hI (by omega)
  obtain ⟨hgr, hfi, hle, hto, hna, hes, htl, hbg, hca, hsa, hme, hlc, hln, hsg, hrw, hnl, hns, hwd, hlv, hlf, hdi, htk⟩ := id hI
  unfold r_meaning
  split
  · exact inv_mean hb _ _ (by omega)
  · exact hb

set_option maxRecDepth 10000 in
theorem I_file {N : Int} {μ : zSt} (hI : zInv N μ)   : zInv (N + 2000000) (r_file μ ).2 := by
  have hb := zInv_mono (N' := N + 2000000) hI (by omega)
  obtain ⟨hgr, hfi, hle, hto, hna, hes, htl, hbg, hca, hsa, hme, hlc, hln, hsg, hrw, hnl, hns, hwd, hlv, hlf, hdi, htk⟩ := id hI
  unfold r_file
  split
  next q => exact inv_file hb q
  next => exact hb

set_option maxRecDepth 10000 in
theorem I_line {N : Int} {μ : zSt} (hI : zInv N μ) (f : Int) (hf : zR f) : zInv (N + 2000000) (r_line μ f).2 := by
  have hb := zInv_mono (N' := N + 2000000) hI (by omega)
  obtain ⟨hgr, hfi, hle, hto, hna, hes, htl, hbg, hca, hsa, hme, hlc, hln, hsg, hrw, hnl, hns, hwd, hlv, hlf, hdi, htk⟩ := id hI
  unfold r_line
  split
  · split
    next q => exact inv_line hb _ q
    next => exact hb
  · exact hb

set_option maxRecDepth 10000 in
theorem I_add {N : Int} {μ : zSt} (hI : zInv N μ) (f n : Int) (x : Int64) (hf : zR f) (hn : zR n) : zInv (N + 2000000) (r_add μ f n x).2 := by
  have hb := zInv_mono (N' := N + 2000000) hI (by omega)
  obtain ⟨hgr, hfi, hle, hto, hna, hes, htl, hbg, hca, hsa, hme, hlc, hln, hsg, hrw, hnl, hns, hwd, hlv, hlf, hdi, htk⟩ := id hI
  unfold r_add
  split
  · split
    next q => split
              · exact hb
              · split
                next q2 => have := hln (30 * f + μ.2 4 f - 1); exact inv_addL (inv_addB2 hb _ _ _ (fun i i0 i1 => zbm_rg x i0 i1 q.2)) _ _ (by omega)
                next => exact hb
    next => exact hb
  · exact hb

set_option maxRecDepth 10000 in
theorem I_open {N : Int} {μ : zSt} (hI : zInv N μ) (f : Int) (hf : zR f) : zInv (N + 2000000) (r_open μ f).2 := by
  have hb := zInv_mono (N' := N + 2000000) hI (by omega)
  obtain ⟨hgr, hfi, hle, hto, hna, hes, htl, hbg, hca, hsa, hme, hlc, hln, hsg, hrw, hnl, hns, hwd, hlv, hlf, hdi, htk⟩ := id hI
  unfold r_open
  split
  next q => split
            next q2 => exact inv_open hb f q.1 q.2 q2
            next => exact hb
  next => exact hb

set_option maxRecDepth 10000 in
theorem I_close {N : Int} {μ : zSt} (hI : zInv N μ)   : zInv (N + 2000000) (r_close μ ).2 := by
  have hb := zInv_mono (N' := N + 2000000) hI (by omega)
  obtain ⟨hgr, hfi, hle, hto, hna, hes, htl, hbg, hca, hsa, hme, hlc, hln, hsg, hrw, hnl, hns, hwd, hlv, hlf, hdi, htk⟩ := id hI
  unfold r_close
  split
  · exact inv_close hb _
  · exact hb

set_option maxRecDepth 10000 in
theorem I_next {N : Int} {μ : zSt} (hI : zInv N μ)   : zInv (N + 2000000) (r_next μ ).2 := by
  have hb := zInv_mono (N' := N + 2000000) hI (by omega)
  obtain ⟨hgr, hfi, hle, hto, hna, hes, htl, hbg, hca, hsa, hme, hlc, hln, hsg, hrw, hnl, hns, hwd, hlv, hlf, hdi, htk⟩ := id hI
  unfold r_next
  split
  · exact hb
  next q => exact zInv_mono (inv_nx 1000000 hI (fun e => by rcases Decidable.em (μ.1 0 19 = 600) with z | z; exact absurd ⟨e, z⟩ q; omega)) (by omega)

set_option maxRecDepth 10000 in
theorem I_raw {N : Int} {μ : zSt} (hI : zInv N μ)   : zInv (N + 2000000) (r_raw μ ).2 := by
  have hb := zInv_mono (N' := N + 2000000) hI (by omega)
  obtain ⟨hgr, hfi, hle, hto, hna, hes, htl, hbg, hca, hsa, hme, hlc, hln, hsg, hrw, hnl, hns, hwd, hlv, hlf, hdi, htk⟩ := id hI
  unfold r_raw
  split
  · exact hb
  next q => exact zInv_mono (inv_raw hI (fun e => by rcases Decidable.em (μ.1 0 19 = 600) with z | z; exact absurd ⟨e, z⟩ q; omega)) (by omega)

set_option maxRecDepth 10000 in
theorem I_name {N : Int} {μ : zSt} (hI : zInv N μ) (a k : Int) (ha : zR a) (hk : zR k) : zInv (N + 2000000) (r_name μ a k).2 := by
  have hb := zInv_mono (N' := N + 2000000) hI (by omega)
  obtain ⟨hgr, hfi, hle, hto, hna, hes, htl, hbg, hca, hsa, hme, hlc, hln, hsg, hrw, hnl, hns, hwd, hlv, hlf, hdi, htk⟩ := id hI
  unfold r_name
  exact hb

set_option maxRecDepth 10000 in
theorem I_told {N : Int} {μ : zSt} (hI : zInv N μ) (a k : Int) (ha : zR a) (hk : zR k) : zInv (N + 2000000) (r_told μ a k).2 := by
  have hb := zInv_mono (N' := N + 2000000) hI (by omega)
  obtain ⟨hgr, hfi, hle, hto, hna, hes, htl, hbg, hca, hsa, hme, hlc, hln, hsg, hrw, hnl, hns, hwd, hlv, hlf, hdi, htk⟩ := id hI
  unfold r_told
  split <;> exact hb

set_option maxRecDepth 10000 in
theorem I_categoryOf {N : Int} {μ : zSt} (hI : zInv N μ) (s : Int) (hs : zR s) : zInv (N + 2000000) (r_categoryOf μ s).2 := by
  have hb := zInv_mono (N' := N + 2000000) hI (by omega)
  obtain ⟨hgr, hfi, hle, hto, hna, hes, htl, hbg, hca, hsa, hme, hlc, hln, hsg, hrw, hnl, hns, hwd, hlv, hlf, hdi, htk⟩ := id hI
  unfold r_categoryOf
  split <;> exact hb

set_option maxRecDepth 10000 in
theorem I_state {N : Int} {μ : zSt} (hI : zInv N μ)   : zInv (N + 2000000) (r_state μ ).2 := by
  have hb := zInv_mono (N' := N + 2000000) hI (by omega)
  obtain ⟨hgr, hfi, hle, hto, hna, hes, htl, hbg, hca, hsa, hme, hlc, hln, hsg, hrw, hnl, hns, hwd, hlv, hlf, hdi, htk⟩ := id hI
  unfold r_state
  split <;> exact hb

set_option maxRecDepth 10000 in
theorem I_count {N : Int} {μ : zSt} (hI : zInv N μ) (q : Int) (hq : zR q) : zInv (N + 2000000) (r_count μ q).2 := by
  have hb := zInv_mono (N' := N + 2000000) hI (by omega)
  obtain ⟨hgr, hfi, hle, hto, hna, hes, htl, hbg, hca, hsa, hme, hlc, hln, hsg, hrw, hnl, hns, hwd, hlv, hlf, hdi, htk⟩ := id hI
  unfold r_count
  repeat (first | exact hb | split)

set_option maxRecDepth 10000 in
theorem I_check {N : Int} {μ : zSt} (hI : zInv N μ)   : zInv (N + 2000000) (r_check μ ).2 := by
  have hb := zInv_mono (N' := N + 2000000) hI (by omega)
  obtain ⟨hgr, hfi, hle, hto, hna, hes, htl, hbg, hca, hsa, hme, hlc, hln, hsg, hrw, hnl, hns, hwd, hlv, hlf, hdi, htk⟩ := id hI
  unfold r_check
  exact hb

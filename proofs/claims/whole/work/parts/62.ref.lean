def r_category (μ : zSt) (s c g : Int) : Int × zSt := if 0 ≤ s ∧ s < 256 ∧ 0 ≤ c ∧ c < 16 then (if g = 0 then (1, zsA μ 1 s c) else (1, zsS (zsA μ 1 s c) 2 s (μ.1 0 3) c)) else (-2, μ)
def r_group (μ : zSt) (b : Int) : Int × zSt := if b = 0 then (if 0 < μ.1 0 3 then (μ.1 0 3 - 1, zsB (zsF μ 0 3 (μ.1 0 3 - 1)) 1 0 256 (fun q => μ.2 2 (256 * (μ.1 0 3 - 1) + q))) else (-3, μ)) else (if μ.1 0 3 < 20 then (μ.1 0 3 + 1, zsF (zsB μ 2 (256 * μ.1 0 3) 256 (μ.2 1)) 0 3 (μ.1 0 3 + 1)) else (-4, μ))
def r_endSign (μ : zSt) (c : Int) : Int × zSt := if -1 ≤ c ∧ c < 256 then (1, zsF μ 0 5 c) else (-2, μ)
def r_meaning (μ : zSt) (s b : Int) : Int × zSt := if 0 ≤ s ∧ s < 256 then (1, zsA μ 3 s b) else (-2, μ)
def r_file (μ : zSt)  : Int × zSt := if μ.1 0 6 < 8 then (μ.1 0 6, zsF μ 0 6 (μ.1 0 6 + 1)) else (-4, μ)
def r_line (μ : zSt) (f : Int) : Int × zSt := if 0 ≤ f ∧ f < μ.1 0 6 then (if μ.2 4 f < 30 then (μ.2 4 f + 1, zsA μ 4 f (μ.2 4 f + 1)) else (-4, μ)) else (-1, μ)
def r_add (μ : zSt) (f n : Int) (x : Int64) : Int × zSt := if 0 ≤ f ∧ f < μ.1 0 6 then (if 1 ≤ n ∧ n ≤ 8 then (if μ.2 4 f = 0 then (-3, μ) else if μ.2 5 (30 * f + μ.2 4 f - 1) + n ≤ 120 then (μ.2 5 (30 * f + μ.2 4 f - 1) + n, zsA (zsB μ 6 (120 * (30 * f + μ.2 4 f - 1) + μ.2 5 (30 * f + μ.2 4 f - 1)) n (zbm x n)) 5 (30 * f + μ.2 4 f - 1) (μ.2 5 (30 * f + μ.2 4 f - 1) + n)) else (-4, μ)) else (-2, μ)) else (-1, μ)
def r_open (μ : zSt) (f : Int) : Int × zSt := if 0 ≤ f ∧ f < μ.1 0 6 then (if μ.1 0 10 < 6 then (μ.1 0 10 + 1, zsF (zsA (zsA (zsA (zsA μ 7 (μ.1 0 10) f) 8 (μ.1 0 10) (-1)) 12 (μ.1 0 10) (-1)) 13 (μ.1 0 10) 0) 0 10 (μ.1 0 10 + 1)) else (-4, μ)) else (-1, μ)
def r_close (μ : zSt)  : Int × zSt := if 0 < μ.1 0 10 then (1, zsA μ 13 (μ.1 0 10 - 1) 1) else (-3, μ)
noncomputable def r_next (μ : zSt)  : Int × zSt := if 0 < μ.1 0 10 ∧ μ.1 0 19 = 600 then (-4, μ) else znx 1000000 μ
noncomputable def r_raw (μ : zSt)  : Int × zSt := if 0 < μ.1 0 10 ∧ μ.1 0 19 = 600 then (-4, μ) else zraw μ
def r_name (μ : zSt) (a k : Int) : Int × zSt := (zns (μ.2 15) (μ.2 16) (μ.1 0 21) a k, μ)
def r_told (μ : zSt) (a k : Int) : Int × zSt := if 0 ≤ a ∧ a < μ.1 0 24 ∧ a < 100 ∧ 0 ≤ k ∧ k < 3 then (μ.2 17 (3 * a + k), μ) else (-1, μ)
def r_categoryOf (μ : zSt) (s : Int) : Int × zSt := if 0 ≤ s ∧ s < 256 then (μ.2 1 s, μ) else (-2, μ)
def r_state (μ : zSt)  : Int × zSt := if 0 < μ.1 0 10 then (μ.2 12 (μ.1 0 10 - 1), μ) else (-1, μ)
def r_count (μ : zSt) (q : Int) : Int × zSt := if q = 0 then (μ.1 0 19, μ) else if q = 1 then (μ.1 0 21, μ) else if q = 2 then (μ.1 0 6, μ) else if q = 3 then (μ.1 0 10, μ) else if q = 4 then (μ.1 0 3, μ) else if q = 5 then (μ.1 0 24, μ) else if q = 6 then (if 0 < μ.1 0 10 ∧ 0 ≤ μ.2 12 (μ.1 0 10 - 1) then (μ.2 10 (μ.1 0 10 - 1) - μ.2 11 (μ.1 0 10 - 1), μ) else (0, μ)) else if q = 7 then (μ.1 0 18, μ) else (-2, μ)
def r_check (μ : zSt)  : Int × zSt := (1, μ)
theorem R_category {G : zG} {σ : zSt} {Post : Option Value → zSt → Prop} {N : Int} (hI : zInv N σ) (hN : N + 2000000 ≤ 2000000000) (s c g : Int) (hs : zR s) (hc : zR c) (hg : zR g) (h : ∀ σ2, eqM σ2 (r_category σ s c g).2 → Post (some (.int (zI (r_category σ s c g).1))) σ2) : zV G shM mX7_category 0 (zini 5 [.ref (zad G 0), .int (zI s), .int (zI c), .int (zI g)]) [] σ Post := by
  obtain ⟨hgr, hfi, hle, hto, hna, hes, htl, hbg, hca, hsa, hme, hlc, hln, hsg, hrw, hnl, hns, hwd, hlv, hlf, hdi, htk⟩ := id hI
  refine M_X7_category hI (by omega) s c g hs hc hg (fun q => ?_) (fun q1 q2 q3 q4 q5 => ?_) (fun q1 q2 q3 q4 q5 => ?_)
  · unfold r_category at h; rw [if_neg q] at h; exact h
  · unfold r_category at h; rw [if_pos ⟨q1, q2, q3, q4⟩, if_neg q5] at h; exact h
  · unfold r_category at h; rw [if_pos ⟨q1, q2, q3, q4⟩, if_pos q5] at h; exact h

theorem R_group {G : zG} {σ : zSt} {Post : Option Value → zSt → Prop} {N : Int} (hI : zInv N σ) (hN : N + 2000000 ≤ 2000000000) (b : Int) (hb : zR b) (h : ∀ σ2, eqM σ2 (r_group σ b).2 → Post (some (.int (zI (r_group σ b).1))) σ2) : zV G shM mX7_group 0 (zini 3 [.ref (zad G 0), .int (zI b)]) [] σ Post := by
  obtain ⟨hgr, hfi, hle, hto, hna, hes, htl, hbg, hca, hsa, hme, hlc, hln, hsg, hrw, hnl, hns, hwd, hlv, hlf, hdi, htk⟩ := id hI
  refine M_X7_group hI (by omega) b hb (fun q1 q2 => ?_) (fun q1 q2 => ?_) (fun q1 q2 => ?_) (fun q1 q2 => ?_)
  · unfold r_group at h; rw [if_pos q1, if_neg (by omega)] at h; exact h
  · unfold r_group at h; rw [if_neg q1, if_neg (by omega)] at h; exact h
  · unfold r_group at h; rw [if_neg q1, if_pos q2] at h; exact h
  · unfold r_group at h; rw [if_pos q1, if_pos q2] at h; exact h

theorem R_endSign {G : zG} {σ : zSt} {Post : Option Value → zSt → Prop} {N : Int} (hI : zInv N σ) (hN : N + 2000000 ≤ 2000000000) (c : Int) (hc : zR c) (h : ∀ σ2, eqM σ2 (r_endSign σ c).2 → Post (some (.int (zI (r_endSign σ c).1))) σ2) : zV G shM mX7_endSign 0 (zini 2 [.ref (zad G 0), .int (zI c)]) [] σ Post := by
  obtain ⟨hgr, hfi, hle, hto, hna, hes, htl, hbg, hca, hsa, hme, hlc, hln, hsg, hrw, hnl, hns, hwd, hlv, hlf, hdi, htk⟩ := id hI
  refine M_X7_endSign hI (by omega) c hc (fun q1 q2 => ?_) (fun q => ?_)
  · unfold r_endSign at h; rw [if_pos ⟨q1, q2⟩] at h; exact h
  · unfold r_endSign at h; rw [if_neg (by omega)] at h; exact h

theorem R_meaning {G : zG} {σ : zSt} {Post : Option Value → zSt → Prop} {N : Int} (hI : zInv N σ) (hN : N + 2000000 ≤ 2000000000) (s b : Int) (hs : zR s) (hb : b = 0 ∨ b = 1) (h : ∀ σ2, eqM σ2 (r_meaning σ s b).2 → Post (some (.int (zI (r_meaning σ s b).1))) σ2) : zV G shM mX7_meaning 0 (zini 3 [.ref (zad G 0), .int (zI s), .int (zI b)]) [] σ Post := by
  obtain ⟨hgr, hfi, hle, hto, hna, hes, htl, hbg, hca, hsa, hme, hlc, hln, hsg, hrw, hnl, hns, hwd, hlv, hlf, hdi, htk⟩ := id hI
  refine M_X7_meaning hI (by omega) s b hs hb (fun q1 q2 => ?_) (fun q => ?_)
  · unfold r_meaning at h; rw [if_pos ⟨q1, q2⟩] at h; exact h
  · unfold r_meaning at h; rw [if_neg (by omega)] at h; exact h

theorem R_file {G : zG} {σ : zSt} {Post : Option Value → zSt → Prop} {N : Int} (hI : zInv N σ) (hN : N + 2000000 ≤ 2000000000)   (h : ∀ σ2, eqM σ2 (r_file σ ).2 → Post (some (.int (zI (r_file σ ).1))) σ2) : zV G shM mX7_file 0 (zini 1 [.ref (zad G 0)]) [] σ Post := by
  obtain ⟨hgr, hfi, hle, hto, hna, hes, htl, hbg, hca, hsa, hme, hlc, hln, hsg, hrw, hnl, hns, hwd, hlv, hlf, hdi, htk⟩ := id hI
  refine M_X7_file hI (by omega)  (fun q => ?_) (fun q => ?_)
  · unfold r_file at h; rw [if_pos q] at h; exact h
  · unfold r_file at h; rw [if_neg (by omega)] at h; exact h

theorem R_line {G : zG} {σ : zSt} {Post : Option Value → zSt → Prop} {N : Int} (hI : zInv N σ) (hN : N + 2000000 ≤ 2000000000) (f : Int) (hf : zR f) (h : ∀ σ2, eqM σ2 (r_line σ f).2 → Post (some (.int (zI (r_line σ f).1))) σ2) : zV G shM mX7_line 0 (zini 2 [.ref (zad G 0), .int (zI f)]) [] σ Post := by
  obtain ⟨hgr, hfi, hle, hto, hna, hes, htl, hbg, hca, hsa, hme, hlc, hln, hsg, hrw, hnl, hns, hwd, hlv, hlf, hdi, htk⟩ := id hI
  refine M_X7_line hI (by omega) f hf (fun q => ?_) (fun q1 q2 q3 => ?_) (fun q1 q2 q3 => ?_)
  · unfold r_line at h; rw [if_neg (by omega)] at h; exact h
  · unfold r_line at h; rw [if_pos ⟨q1, q2⟩, if_pos q3] at h; exact h
  · unfold r_line at h; rw [if_pos ⟨q1, q2⟩, if_neg (by omega)] at h; exact h

theorem R_add {G : zG} {σ : zSt} {Post : Option Value → zSt → Prop} {N : Int} (hI : zInv N σ) (hN : N + 2000000 ≤ 2000000000) (f n : Int) (x : Int64) (hf : zR f) (hn : zR n) (h : ∀ σ2, eqM σ2 (r_add σ f n x).2 → Post (some (.int (zI (r_add σ f n x).1))) σ2) : zV G shM mX7_add 0 (zini 7 [.ref (zad G 0), .int (zI f), .long x, .int (zI n)]) [] σ Post := by
  obtain ⟨hgr, hfi, hle, hto, hna, hes, htl, hbg, hca, hsa, hme, hlc, hln, hsg, hrw, hnl, hns, hwd, hlv, hlf, hdi, htk⟩ := id hI
  refine M_X7_add hI (by omega) f n x hf hn (fun q => ?_) (fun q1 q2 q3 => ?_) (fun q1 q2 q3 q4 q5 => ?_) (fun q1 q2 q3 q4 q5 q6 => ?_) (fun q1 q2 q3 q4 q5 q6 => ?_)
  · unfold r_add at h; rw [if_neg (by omega)] at h; exact h
  · unfold r_add at h; rw [if_pos ⟨q1, q2⟩, if_neg (by omega)] at h; exact h
  · unfold r_add at h; rw [if_pos ⟨q1, q2⟩, if_pos ⟨q3, q4⟩, if_pos q5] at h; exact h
  · unfold r_add at h; rw [if_pos ⟨q1, q2⟩, if_pos ⟨q3, q4⟩, if_neg (by omega), if_neg (by omega)] at h; exact h
  · unfold r_add at h; rw [if_pos ⟨q1, q2⟩, if_pos ⟨q3, q4⟩, if_neg (by omega), if_pos q6] at h; exact h

theorem R_open {G : zG} {σ : zSt} {Post : Option Value → zSt → Prop} {N : Int} (hI : zInv N σ) (hN : N + 2000000 ≤ 2000000000) (f : Int) (hf : zR f) (h : ∀ σ2, eqM σ2 (r_open σ f).2 → Post (some (.int (zI (r_open σ f).1))) σ2) : zV G shM mX7_open 0 (zini 2 [.ref (zad G 0), .int (zI f)]) [] σ Post := by
  obtain ⟨hgr, hfi, hle, hto, hna, hes, htl, hbg, hca, hsa, hme, hlc, hln, hsg, hrw, hnl, hns, hwd, hlv, hlf, hdi, htk⟩ := id hI
  refine M_X7_open hI (by omega) f hf (fun q => ?_) (fun q1 q2 q3 => ?_) (fun q1 q2 q3 => ?_)
  · unfold r_open at h; rw [if_neg (by omega)] at h; exact h
  · unfold r_open at h; rw [if_pos ⟨q1, q2⟩, if_neg (by omega)] at h; exact h
  · unfold r_open at h; rw [if_pos ⟨q1, q2⟩, if_pos q3] at h; exact h

theorem R_close {G : zG} {σ : zSt} {Post : Option Value → zSt → Prop} {N : Int} (hI : zInv N σ) (hN : N + 2000000 ≤ 2000000000)   (h : ∀ σ2, eqM σ2 (r_close σ ).2 → Post (some (.int (zI (r_close σ ).1))) σ2) : zV G shM mX7_close 0 (zini 1 [.ref (zad G 0)]) [] σ Post := by
  obtain ⟨hgr, hfi, hle, hto, hna, hes, htl, hbg, hca, hsa, hme, hlc, hln, hsg, hrw, hnl, hns, hwd, hlv, hlf, hdi, htk⟩ := id hI
  refine M_X7_close hI (by omega)  (fun q => ?_) (fun q => ?_)
  · unfold r_close at h; rw [if_neg (by omega)] at h; exact h
  · unfold r_close at h; rw [if_pos q] at h; exact h

theorem R_next {G : zG} {σ : zSt} {Post : Option Value → zSt → Prop} {N : Int} (hI : zInv N σ) (hN : N + 2000000 ≤ 2000000000)   (h : ∀ σ2, eqM σ2 (r_next σ ).2 → Post (some (.int (zI (r_next σ ).1))) σ2) : zV G shM mX7_next 0 (zini 3 [.ref (zad G 0)]) [] σ Post := by
  obtain ⟨hgr, hfi, hle, hto, hna, hes, htl, hbg, hca, hsa, hme, hlc, hln, hsg, hrw, hnl, hns, hwd, hlv, hlf, hdi, htk⟩ := id hI
  refine M_X7_next hI (by omega) hN  (fun q1 q2 => ?_) (fun q => ?_)
  · unfold r_next at h; rw [if_pos ⟨q1, q2⟩] at h; exact h
  · unfold r_next at h; rw [if_neg (fun e => by have := q e.1; omega)] at h; exact h

theorem R_raw {G : zG} {σ : zSt} {Post : Option Value → zSt → Prop} {N : Int} (hI : zInv N σ) (hN : N + 2000000 ≤ 2000000000)   (h : ∀ σ2, eqM σ2 (r_raw σ ).2 → Post (some (.int (zI (r_raw σ ).1))) σ2) : zV G shM mX7_raw 0 (zini 3 [.ref (zad G 0)]) [] σ Post := by
  obtain ⟨hgr, hfi, hle, hto, hna, hes, htl, hbg, hca, hsa, hme, hlc, hln, hsg, hrw, hnl, hns, hwd, hlv, hlf, hdi, htk⟩ := id hI
  refine M_X7_raw hI (by omega)  (fun q1 q2 => ?_) (fun q => ?_)
  · unfold r_raw at h; rw [if_pos ⟨q1, q2⟩] at h; exact h
  · unfold r_raw at h; rw [if_neg (fun e => by have := q e.1; omega)] at h; exact h

theorem R_name {G : zG} {σ : zSt} {Post : Option Value → zSt → Prop} {N : Int} (hI : zInv N σ) (hN : N + 2000000 ≤ 2000000000) (a k : Int) (ha : zR a) (hk : zR k) (h : ∀ σ2, eqM σ2 (r_name σ a k).2 → Post (some (.int (zI (r_name σ a k).1))) σ2) : zV G shM mX7_name 0 (zini 3 [.ref (zad G 0), .int (zI a), .int (zI k)]) [] σ Post := by
  obtain ⟨hgr, hfi, hle, hto, hna, hes, htl, hbg, hca, hsa, hme, hlc, hln, hsg, hrw, hnl, hns, hwd, hlv, hlf, hdi, htk⟩ := id hI
  refine M_X7_name hI (by omega) a k ha hk ?_
  · unfold r_name at h; exact h

theorem R_told {G : zG} {σ : zSt} {Post : Option Value → zSt → Prop} {N : Int} (hI : zInv N σ) (hN : N + 2000000 ≤ 2000000000) (a k : Int) (ha : zR a) (hk : zR k) (h : ∀ σ2, eqM σ2 (r_told σ a k).2 → Post (some (.int (zI (r_told σ a k).1))) σ2) : zV G shM mX7_told 0 (zini 3 [.ref (zad G 0), .int (zI a), .int (zI k)]) [] σ Post := by
  obtain ⟨hgr, hfi, hle, hto, hna, hes, htl, hbg, hca, hsa, hme, hlc, hln, hsg, hrw, hnl, hns, hwd, hlv, hlf, hdi, htk⟩ := id hI
  refine M_X7_told hI (by omega) a k ha hk (fun q1 q2 q3 q4 q5 => ?_) (fun q => ?_)
  · unfold r_told at h; rw [if_pos ⟨q1, q2, q3, q4, q5⟩] at h; exact h
  · unfold r_told at h; rw [if_neg q] at h; exact h

theorem R_categoryOf {G : zG} {σ : zSt} {Post : Option Value → zSt → Prop} {N : Int} (hI : zInv N σ) (hN : N + 2000000 ≤ 2000000000) (s : Int) (hs : zR s) (h : ∀ σ2, eqM σ2 (r_categoryOf σ s).2 → Post (some (.int (zI (r_categoryOf σ s).1))) σ2) : zV G shM mX7_categoryOf 0 (zini 2 [.ref (zad G 0), .int (zI s)]) [] σ Post := by
  obtain ⟨hgr, hfi, hle, hto, hna, hes, htl, hbg, hca, hsa, hme, hlc, hln, hsg, hrw, hnl, hns, hwd, hlv, hlf, hdi, htk⟩ := id hI
  refine M_X7_categoryOf hI (by omega) s hs (fun q1 q2 => ?_) (fun q => ?_)
  · unfold r_categoryOf at h; rw [if_pos ⟨q1, q2⟩] at h; exact h
  · unfold r_categoryOf at h; rw [if_neg (by omega)] at h; exact h

theorem R_state {G : zG} {σ : zSt} {Post : Option Value → zSt → Prop} {N : Int} (hI : zInv N σ) (hN : N + 2000000 ≤ 2000000000)   (h : ∀ σ2, eqM σ2 (r_state σ ).2 → Post (some (.int (zI (r_state σ ).1))) σ2) : zV G shM mX7_state 0 (zini 1 [.ref (zad G 0)]) [] σ Post := by
  obtain ⟨hgr, hfi, hle, hto, hna, hes, htl, hbg, hca, hsa, hme, hlc, hln, hsg, hrw, hnl, hns, hwd, hlv, hlf, hdi, htk⟩ := id hI
  refine M_X7_state hI (by omega)  (fun q => ?_) (fun q => ?_)
  · unfold r_state at h; rw [if_neg (by omega)] at h; exact h
  · unfold r_state at h; rw [if_pos q] at h; exact h

theorem R_count {G : zG} {σ : zSt} {Post : Option Value → zSt → Prop} {N : Int} (hI : zInv N σ) (hN : N + 2000000 ≤ 2000000000) (q : Int) (hq : zR q) (h : ∀ σ2, eqM σ2 (r_count σ q).2 → Post (some (.int (zI (r_count σ q).1))) σ2) : zV G shM mX7_count 0 (zini 3 [.ref (zad G 0), .int (zI q)]) [] σ Post := by
  obtain ⟨hgr, hfi, hle, hto, hna, hes, htl, hbg, hca, hsa, hme, hlc, hln, hsg, hrw, hnl, hns, hwd, hlv, hlf, hdi, htk⟩ := id hI
  refine M_X7_count hI (by omega) q hq (fun q1 => ?_) (fun q1 => ?_) (fun q1 => ?_) (fun q1 => ?_) (fun q1 => ?_) (fun q1 => ?_) (fun q1 q2 => ?_) (fun q1 q2 q3 => ?_) (fun q1 => ?_) (fun q1 => ?_)
  · unfold r_count at h; rw [if_pos q1] at h; exact h
  · unfold r_count at h; rw [if_neg (by omega), if_pos q1] at h; exact h
  · unfold r_count at h; rw [if_neg (by omega), if_neg (by omega), if_pos q1] at h; exact h
  · unfold r_count at h; rw [if_neg (by omega), if_neg (by omega), if_neg (by omega), if_pos q1] at h; exact h
  · unfold r_count at h; rw [if_neg (by omega), if_neg (by omega), if_neg (by omega), if_neg (by omega), if_pos q1] at h; exact h
  · unfold r_count at h; rw [if_neg (by omega), if_neg (by omega), if_neg (by omega), if_neg (by omega), if_neg (by omega), if_pos q1] at h; exact h
  · unfold r_count at h; rw [if_neg (by omega), if_neg (by omega), if_neg (by omega), if_neg (by omega), if_neg (by omega), if_neg (by omega), if_pos q1, if_neg (by omega)] at h; exact h
  · unfold r_count at h; rw [if_neg (by omega), if_neg (by omega), if_neg (by omega), if_neg (by omega), if_neg (by omega), if_neg (by omega), if_pos q1, if_pos ⟨q2, q3⟩] at h; exact h
  · unfold r_count at h; rw [if_neg (by omega), if_neg (by omega), if_neg (by omega), if_neg (by omega), if_neg (by omega), if_neg (by omega), if_neg (by omega), if_pos q1] at h; exact h
  · unfold r_count at h; rw [if_neg (by omega), if_neg (by omega), if_neg (by omega), if_neg (by omega), if_neg (by omega), if_neg (by omega), if_neg (by omega), if_neg (by omega)] at h; exact h

theorem R_check {G : zG} {σ : zSt} {Post : Option Value → zSt → Prop} {N : Int} (hI : zInv N σ) (hN : N + 2000000 ≤ 2000000000)   (h : ∀ σ2, eqM σ2 (r_check σ ).2 → Post (some (.int (zI (r_check σ ).1))) σ2) : zV G shM mX7_check 0 (zini 1 [.ref (zad G 0)]) [] σ Post := by
  obtain ⟨hgr, hfi, hle, hto, hna, hes, htl, hbg, hca, hsa, hme, hlc, hln, hsg, hrw, hnl, hns, hwd, hlv, hlf, hdi, htk⟩ := id hI
  refine M_X7_check hI (by omega)  ?_
  · unfold r_check at h; exact h

theorem C_category {G : zG} {σ : zSt} {Post : Option Value → zSt → Prop} {N : Int} (μ : zSt) (hrel : zRel σ μ) (hI : zInv N μ) (hN : N + 2000000 ≤ 2000000000) (s c g : Int) (hs : zR s) (hc : zR c) (hg : zR g) (h : ∀ c1, zRel c1 (r_category μ s c g).2 → Post (some (.int (zI (r_category μ s c g).1))) c1) : zV G shC mX6_category 0 (zini 4 [.ref (zad G 0), .int (zI s), .int (zI c), .int (zI g)]) [] σ Post := by
  obtain ⟨hgr, hfi, hle, hto, hna, hes, htl, hbg, hca, hsa, hme, hlc, hln, hsg, hrw, hnl, hns, hwd, hlv, hlf, hdi, htk⟩ := id hI
  obtain ⟨⟨f1, f2, f3, f4, f5, f6, f7, f8⟩, ⟨a1, a2, a3, a4, a5, a6, a7, a8, a9, a10⟩, hl⟩ := id hrel
  refine M_X6_category s c g hs hc hg (by omega) (by omega) (fun q => ?_) (fun q1 q2 q3 q4 q5 => ?_) (fun q1 q2 q3 q4 q5 => ?_)
  · unfold r_category at h
    rw [if_neg q] at h
    exact h _ hrel
  · unfold r_category at h
    rw [if_pos ⟨q1, q2, q3, q4⟩, if_neg q5] at h
    rw [f1]; exact h _ (hrel.A1 (by omega) a1).catS
  · unfold r_category at h
    rw [if_pos ⟨q1, q2, q3, q4⟩, if_pos q5] at h
    exact h _ (hrel.A1 (by omega) a1)

theorem C_group {G : zG} {σ : zSt} {Post : Option Value → zSt → Prop} {N : Int} (μ : zSt) (hrel : zRel σ μ) (hI : zInv N μ) (hN : N + 2000000 ≤ 2000000000) (b : Int) (hb : zR b) (h : ∀ c1, zRel c1 (r_group μ b).2 → Post (some (.int (zI (r_group μ b).1))) c1) : zV G shC mX6_group 0 (zini 2 [.ref (zad G 0), .int (zI b)]) [] σ Post := by
  obtain ⟨hgr, hfi, hle, hto, hna, hes, htl, hbg, hca, hsa, hme, hlc, hln, hsg, hrw, hnl, hns, hwd, hlv, hlf, hdi, htk⟩ := id hI
  obtain ⟨⟨f1, f2, f3, f4, f5, f6, f7, f8⟩, ⟨a1, a2, a3, a4, a5, a6, a7, a8, a9, a10⟩, hl⟩ := id hrel
  refine M_X6_group b hb (by omega) (by omega) (fun q1 q2 => ?_) (fun q1 q2 => ?_) (fun q1 q2 => ?_) (fun q1 q2 => ?_)
  · unfold r_group at h
    rw [if_neg q1, if_pos (by omega)] at h
    rw [f1]; exact h _ (hrel.grp1.fld (by omega))
  · unfold r_group at h
    rw [if_neg q1, if_neg (by omega)] at h
    exact h _ hrel
  · unfold r_group at h
    rw [if_pos q1, if_pos (by omega)] at h
    rw [f1]; exact h _ (zRel.grp2 (hrel.fld (by omega)) (fun _ _ _ => rfl))
  · unfold r_group at h
    rw [if_pos q1, if_neg (by omega)] at h
    exact h _ hrel

theorem C_endSign {G : zG} {σ : zSt} {Post : Option Value → zSt → Prop} {N : Int} (μ : zSt) (hrel : zRel σ μ) (hI : zInv N μ) (hN : N + 2000000 ≤ 2000000000) (c : Int) (hc : zR c) (h : ∀ c1, zRel c1 (r_endSign μ c).2 → Post (some (.int (zI (r_endSign μ c).1))) c1) : zV G shC mX6_endSign 0 (zini 2 [.ref (zad G 0), .int (zI c)]) [] σ Post := by
  obtain ⟨hgr, hfi, hle, hto, hna, hes, htl, hbg, hca, hsa, hme, hlc, hln, hsg, hrw, hnl, hns, hwd, hlv, hlf, hdi, htk⟩ := id hI
  obtain ⟨⟨f1, f2, f3, f4, f5, f6, f7, f8⟩, ⟨a1, a2, a3, a4, a5, a6, a7, a8, a9, a10⟩, hl⟩ := id hrel
  refine M_X6_endSign c hc  (fun q1 q2 => ?_) (fun q => ?_)
  · unfold r_endSign at h
    rw [if_pos ⟨q1, q2⟩] at h
    exact h _ (hrel.fld (by omega))
  · unfold r_endSign at h
    rw [if_neg (by omega)] at h
    exact h _ hrel

theorem C_meaning {G : zG} {σ : zSt} {Post : Option Value → zSt → Prop} {N : Int} (μ : zSt) (hrel : zRel σ μ) (hI : zInv N μ) (hN : N + 2000000 ≤ 2000000000) (s b : Int) (hs : zR s) (hb : b = 0 ∨ b = 1) (h : ∀ c1, zRel c1 (r_meaning μ s b).2 → Post (some (.int (zI (r_meaning μ s b).1))) c1) : zV G shC mX6_meaning 0 (zini 3 [.ref (zad G 0), .int (zI s), .int (zI b)]) [] σ Post := by
  obtain ⟨hgr, hfi, hle, hto, hna, hes, htl, hbg, hca, hsa, hme, hlc, hln, hsg, hrw, hnl, hns, hwd, hlv, hlf, hdi, htk⟩ := id hI
  obtain ⟨⟨f1, f2, f3, f4, f5, f6, f7, f8⟩, ⟨a1, a2, a3, a4, a5, a6, a7, a8, a9, a10⟩, hl⟩ := id hrel
  refine M_X6_meaning s b hs hb  (fun q1 q2 => ?_) (fun q => ?_)
  · unfold r_meaning at h
    rw [if_pos ⟨q1, q2⟩] at h
    exact h _ (hrel.A1 (by omega) a3)
  · unfold r_meaning at h
    rw [if_neg (by omega)] at h
    exact h _ hrel

theorem C_file {G : zG} {σ : zSt} {Post : Option Value → zSt → Prop} {N : Int} (μ : zSt) (hrel : zRel σ μ) (hI : zInv N μ) (hN : N + 2000000 ≤ 2000000000)   (h : ∀ c1, zRel c1 (r_file μ ).2 → Post (some (.int (zI (r_file μ ).1))) c1) : zV G shC mX6_file 0 (zini 1 [.ref (zad G 0)]) [] σ Post := by
  obtain ⟨hgr, hfi, hle, hto, hna, hes, htl, hbg, hca, hsa, hme, hlc, hln, hsg, hrw, hnl, hns, hwd, hlv, hlf, hdi, htk⟩ := id hI
  obtain ⟨⟨f1, f2, f3, f4, f5, f6, f7, f8⟩, ⟨a1, a2, a3, a4, a5, a6, a7, a8, a9, a10⟩, hl⟩ := id hrel
  refine M_X6_file  (by omega) (fun q => ?_) (fun q => ?_)
  · unfold r_file at h
    rw [if_pos (by omega)] at h
    rw [f2]; exact h _ (hrel.fld (by omega))
  · unfold r_file at h
    rw [if_neg (by omega)] at h
    exact h _ hrel

theorem C_line {G : zG} {σ : zSt} {Post : Option Value → zSt → Prop} {N : Int} (μ : zSt) (hrel : zRel σ μ) (hI : zInv N μ) (hN : N + 2000000 ≤ 2000000000) (f : Int) (hf : zR f) (h : ∀ c1, zRel c1 (r_line μ f).2 → Post (some (.int (zI (r_line μ f).1))) c1) : zV G shC mX6_line 0 (zini 2 [.ref (zad G 0), .int (zI f)]) [] σ Post := by
  obtain ⟨hgr, hfi, hle, hto, hna, hes, htl, hbg, hca, hsa, hme, hlc, hln, hsg, hrw, hnl, hns, hwd, hlv, hlf, hdi, htk⟩ := id hI
  obtain ⟨⟨f1, f2, f3, f4, f5, f6, f7, f8⟩, ⟨a1, a2, a3, a4, a5, a6, a7, a8, a9, a10⟩, hl⟩ := id hrel
  refine M_X6_line f hf (by omega) (by rw [a4]; exact fun q => (hlc q).1) (fun q => ?_) (fun q1 q2 q3 => ?_) (fun q1 q2 q3 => ?_)
  · unfold r_line at h
    rw [if_neg (by omega)] at h
    exact h _ hrel
  · unfold r_line at h
    rw [a4] at q3 ⊢
    rw [if_pos ⟨q1, by omega⟩, if_pos q3] at h
    exact h _ (hrel.A1 (by omega) a4)
  · unfold r_line at h
    rw [a4] at q3
    rw [if_pos ⟨q1, by omega⟩, if_neg (by omega)] at h
    exact h _ hrel

theorem C_add {G : zG} {σ : zSt} {Post : Option Value → zSt → Prop} {N : Int} (μ : zSt) (hrel : zRel σ μ) (hI : zInv N μ) (hN : N + 2000000 ≤ 2000000000) (f n : Int) (x : Int64) (hf : zR f) (hn : zR n) (h : ∀ c1, zRel c1 (r_add μ f n x).2 → Post (some (.int (zI (r_add μ f n x).1))) c1) : zV G shC mX6_add 0 (zini 5 [.ref (zad G 0), .int (zI f), .long x, .int (zI n)]) [] σ Post := by
  obtain ⟨hgr, hfi, hle, hto, hna, hes, htl, hbg, hca, hsa, hme, hlc, hln, hsg, hrw, hnl, hns, hwd, hlv, hlf, hdi, htk⟩ := id hI
  obtain ⟨⟨f1, f2, f3, f4, f5, f6, f7, f8⟩, ⟨a1, a2, a3, a4, a5, a6, a7, a8, a9, a10⟩, hl⟩ := id hrel
  refine M_X6_add f n x hf hn (by omega) (by rw [a4]; exact hlc) (by rw [a5]; exact hln) (fun q => ?_) (fun q1 q2 q3 => ?_) (fun q1 q2 q3 q4 q5 => ?_) (fun q1 q2 q3 q4 q5 q6 => ?_) (fun q1 q2 q3 q4 q5 q6 => ?_)
  · unfold r_add at h
    rw [if_neg (by omega)] at h
    exact h _ hrel
  · unfold r_add at h
    rw [if_pos ⟨q1, by omega⟩, if_neg (by omega)] at h
    exact h _ hrel
  · unfold r_add at h
    rw [a4] at q5
    rw [if_pos ⟨q1, by omega⟩, if_pos ⟨q3, q4⟩, if_pos q5] at h
    exact h _ hrel
  · unfold r_add at h
    rw [a4] at q5
    rw [a4, a5, show f * 30 + μ.2 4 f - 1 = 30 * f + μ.2 4 f - 1 by omega] at q6
    rw [if_pos ⟨q1, by omega⟩, if_pos ⟨q3, q4⟩, if_neg (by omega), if_neg (by omega)] at h
    exact h _ hrel
  · unfold r_add at h
    rw [a4] at q5
    rw [a4, a5, show f * 30 + μ.2 4 f - 1 = 30 * f + μ.2 4 f - 1 by omega] at q6 ⊢
    rw [if_pos ⟨q1, by omega⟩, if_pos ⟨q3, q4⟩, if_neg (by omega), if_pos q6] at h
    rw [show (30 * f + μ.2 4 f - 1) * 120 = 120 * (30 * f + μ.2 4 f - 1) by omega]
    exact h _ ((hrel.addB (fun q q0 q1 => zbc_bm x q0 q1 q4)).A1 (by omega) ((zsB_arr (by decide)).trans (a5.trans (zsB_arr (by decide)).symm)))

theorem C_open {G : zG} {σ : zSt} {Post : Option Value → zSt → Prop} {N : Int} (μ : zSt) (hrel : zRel σ μ) (hI : zInv N μ) (hN : N + 2000000 ≤ 2000000000) (f : Int) (hf : zR f) (h : ∀ c1, zRel c1 (r_open μ f).2 → Post (some (.int (zI (r_open μ f).1))) c1) : zV G shC mX6_open 0 (zini 2 [.ref (zad G 0), .int (zI f)]) [] σ Post := by
  obtain ⟨hgr, hfi, hle, hto, hna, hes, htl, hbg, hca, hsa, hme, hlc, hln, hsg, hrw, hnl, hns, hwd, hlv, hlf, hdi, htk⟩ := id hI
  obtain ⟨⟨f1, f2, f3, f4, f5, f6, f7, f8⟩, ⟨a1, a2, a3, a4, a5, a6, a7, a8, a9, a10⟩, hl⟩ := id hrel
  refine M_X6_open f hf (by omega) (by omega) (by omega) (fun q => ?_) (fun q1 q2 q3 => ?_) (fun q1 q2 t ht q3 => ?_)
  · unfold r_open at h
    rw [if_neg (by omega)] at h
    exact h _ hrel
  · unfold r_open at h
    rw [if_pos ⟨q1, by omega⟩, if_neg (by omega)] at h
    exact h _ hrel
  · unfold r_open at h
    rw [if_pos ⟨q1, by omega⟩, if_pos (by omega)] at h
    rw [f6] at q3 ⊢
    rw [q3] at h ⊢
    exact h _ (hrel.opn ht q3 rfl)

theorem C_close {G : zG} {σ : zSt} {Post : Option Value → zSt → Prop} {N : Int} (μ : zSt) (hrel : zRel σ μ) (hI : zInv N μ) (hN : N + 2000000 ≤ 2000000000)   (h : ∀ c1, zRel c1 (r_close μ ).2 → Post (some (.int (zI (r_close μ ).1))) c1) : zV G shC mX6_close 0 (zini 2 [.ref (zad G 0)]) [] σ Post := by
  obtain ⟨hgr, hfi, hle, hto, hna, hes, htl, hbg, hca, hsa, hme, hlc, hln, hsg, hrw, hnl, hns, hwd, hlv, hlf, hdi, htk⟩ := id hI
  obtain ⟨⟨f1, f2, f3, f4, f5, f6, f7, f8⟩, ⟨a1, a2, a3, a4, a5, a6, a7, a8, a9, a10⟩, hl⟩ := id hrel
  refine M_X6_close  (by omega) (by omega) (fun q => ?_) (fun t ht q => ?_)
  · unfold r_close at h
    rw [if_neg (by omega)] at h
    exact h _ hrel
  · unfold r_close at h
    rw [if_pos (by omega)] at h
    rw [show μ.1 0 10 - 1 = (t : Int) by omega] at h
    exact h _ (hrel.cl ht)

theorem C_name {G : zG} {σ : zSt} {Post : Option Value → zSt → Prop} {N : Int} (μ : zSt) (hrel : zRel σ μ) (hI : zInv N μ) (hN : N + 2000000 ≤ 2000000000) (a k : Int) (ha : zR a) (hk : zR k) (h : ∀ c1, zRel c1 (r_name μ a k).2 → Post (some (.int (zI (r_name μ a k).1))) c1) : zV G shC mX6_name 0 (zini 3 [.ref (zad G 0), .int (zI a), .int (zI k)]) [] σ Post := by
  obtain ⟨hgr, hfi, hle, hto, hna, hes, htl, hbg, hca, hsa, hme, hlc, hln, hsg, hrw, hnl, hns, hwd, hlv, hlf, hdi, htk⟩ := id hI
  obtain ⟨⟨f1, f2, f3, f4, f5, f6, f7, f8⟩, ⟨a1, a2, a3, a4, a5, a6, a7, a8, a9, a10⟩, hl⟩ := id hrel
  refine M_X6_name a k ha hk (by omega) (by rw [a8]; exact hnl) ?_
  · unfold r_name at h
    rw [a7, a8, f3]; exact h _ hrel

theorem C_told {G : zG} {σ : zSt} {Post : Option Value → zSt → Prop} {N : Int} (μ : zSt) (hrel : zRel σ μ) (hI : zInv N μ) (hN : N + 2000000 ≤ 2000000000) (a k : Int) (ha : zR a) (hk : zR k) (h : ∀ c1, zRel c1 (r_told μ a k).2 → Post (some (.int (zI (r_told μ a k).1))) c1) : zV G shC mX6_told 0 (zini 3 [.ref (zad G 0), .int (zI a), .int (zI k)]) [] σ Post := by
  obtain ⟨hgr, hfi, hle, hto, hna, hes, htl, hbg, hca, hsa, hme, hlc, hln, hsg, hrw, hnl, hns, hwd, hlv, hlf, hdi, htk⟩ := id hI
  obtain ⟨⟨f1, f2, f3, f4, f5, f6, f7, f8⟩, ⟨a1, a2, a3, a4, a5, a6, a7, a8, a9, a10⟩, hl⟩ := id hrel
  refine M_X6_told a k ha hk (by omega) (fun q1 q2 q3 q4 q5 => ?_) (fun q => ?_)
  · unfold r_told at h
    rw [if_pos ⟨q1, by omega, q3, q4, q5⟩] at h
    rw [a10, show a * 3 + k = 3 * a + k by omega]
    exact h _ hrel
  · unfold r_told at h
    rw [if_neg (by omega)] at h
    exact h _ hrel

theorem C_categoryOf {G : zG} {σ : zSt} {Post : Option Value → zSt → Prop} {N : Int} (μ : zSt) (hrel : zRel σ μ) (hI : zInv N μ) (hN : N + 2000000 ≤ 2000000000) (s : Int) (hs : zR s) (h : ∀ c1, zRel c1 (r_categoryOf μ s).2 → Post (some (.int (zI (r_categoryOf μ s).1))) c1) : zV G shC mX6_categoryOf 0 (zini 2 [.ref (zad G 0), .int (zI s)]) [] σ Post := by
  obtain ⟨hgr, hfi, hle, hto, hna, hes, htl, hbg, hca, hsa, hme, hlc, hln, hsg, hrw, hnl, hns, hwd, hlv, hlf, hdi, htk⟩ := id hI
  obtain ⟨⟨f1, f2, f3, f4, f5, f6, f7, f8⟩, ⟨a1, a2, a3, a4, a5, a6, a7, a8, a9, a10⟩, hl⟩ := id hrel
  refine M_X6_categoryOf s hs  (fun q1 q2 => ?_) (fun q => ?_)
  · unfold r_categoryOf at h
    rw [if_pos ⟨q1, q2⟩] at h
    rw [a1]; exact h _ hrel
  · unfold r_categoryOf at h
    rw [if_neg (by omega)] at h
    exact h _ hrel

theorem C_state {G : zG} {σ : zSt} {Post : Option Value → zSt → Prop} {N : Int} (μ : zSt) (hrel : zRel σ μ) (hI : zInv N μ) (hN : N + 2000000 ≤ 2000000000)   (h : ∀ c1, zRel c1 (r_state μ ).2 → Post (some (.int (zI (r_state μ ).1))) c1) : zV G shC mX6_state 0 (zini 2 [.ref (zad G 0)]) [] σ Post := by
  obtain ⟨hgr, hfi, hle, hto, hna, hes, htl, hbg, hca, hsa, hme, hlc, hln, hsg, hrw, hnl, hns, hwd, hlv, hlf, hdi, htk⟩ := id hI
  obtain ⟨⟨f1, f2, f3, f4, f5, f6, f7, f8⟩, ⟨a1, a2, a3, a4, a5, a6, a7, a8, a9, a10⟩, hl⟩ := id hrel
  refine M_X6_state  (by omega) (by omega) (fun q => ?_) (fun t ht q q2 => ?_) (fun t ht q q2 => ?_)
  · unfold r_state at h
    rw [if_neg (by omega)] at h
    exact h _ hrel
  · unfold r_state at h
    have hv := hl t (by omega)
    rw [if_pos (by omega)] at h
    rw [show μ.1 0 10 - 1 = (t : Int) by omega] at h
    obtain ⟨-, hv | ⟨-, hv, -⟩⟩ := hv
    have := hlv (t : Int)
    · exact zPe (h _ hrel) (by dsimp only; omega)
    · omega
  · unfold r_state at h
    have hv := hl t (by omega)
    rw [if_pos (by omega)] at h
    rw [show μ.1 0 10 - 1 = (t : Int) by omega] at h
    obtain ⟨-, hv | ⟨-, hv1, hv2, hv3, hv4, -⟩⟩ := hv
    · omega
    · exact zPe (h _ hrel) hv4

theorem C_count {G : zG} {σ : zSt} {Post : Option Value → zSt → Prop} {N : Int} (μ : zSt) (hrel : zRel σ μ) (hI : zInv N μ) (hN : N + 2000000 ≤ 2000000000) (q : Int) (hq : zR q) (h : ∀ c1, zRel c1 (r_count μ q).2 → Post (some (.int (zI (r_count μ q).1))) c1) : zV G shC mX6_count 0 (zini 2 [.ref (zad G 0), .int (zI q)]) [] σ Post := by
  obtain ⟨hgr, hfi, hle, hto, hna, hes, htl, hbg, hca, hsa, hme, hlc, hln, hsg, hrw, hnl, hns, hwd, hlv, hlf, hdi, htk⟩ := id hI
  obtain ⟨⟨f1, f2, f3, f4, f5, f6, f7, f8⟩, ⟨a1, a2, a3, a4, a5, a6, a7, a8, a9, a10⟩, hl⟩ := id hrel
  refine M_X6_count q hq (by omega) (by omega) (fun q1 => ?_) (fun q1 => ?_) (fun q1 => ?_) (fun q1 => ?_) (fun q1 => ?_) (fun q1 => ?_) (fun q1 q2 => ?_) (fun q1 t ht q2 q3 => ?_) (fun q1 t ht q2 q3 q4 => ?_) (fun q1 t ht q2 q3 q4 => ?_) (fun q1 => ?_) (fun q1 => ?_)
  · unfold r_count at h
    rw [if_pos q1] at h
    exact zPe (h _ hrel) f4
  · unfold r_count at h
    rw [if_neg (by omega), if_pos q1] at h
    exact zPe (h _ hrel) f3
  · unfold r_count at h
    rw [if_neg (by omega), if_neg (by omega), if_pos q1] at h
    exact zPe (h _ hrel) f2
  · unfold r_count at h
    rw [if_neg (by omega), if_neg (by omega), if_neg (by omega), if_pos q1] at h
    exact zPe (h _ hrel) f6
  · unfold r_count at h
    rw [if_neg (by omega), if_neg (by omega), if_neg (by omega), if_neg (by omega), if_pos q1] at h
    exact zPe (h _ hrel) f1
  · unfold r_count at h
    rw [if_neg (by omega), if_neg (by omega), if_neg (by omega), if_neg (by omega), if_neg (by omega), if_pos q1] at h
    exact zPe (h _ hrel) f5
  · unfold r_count at h
    rw [if_neg (by omega), if_neg (by omega), if_neg (by omega), if_neg (by omega), if_neg (by omega), if_neg (by omega), if_pos q1, if_neg (by omega)] at h
    exact h _ hrel
  · unfold r_count at h
    have hv := hl t (by omega)
    obtain ⟨-, hv | ⟨-, hv, -⟩⟩ := hv
    · rw [if_neg (by omega), if_neg (by omega), if_neg (by omega), if_neg (by omega), if_neg (by omega), if_neg (by omega), if_pos q1, if_neg (fun e => by have := e.2; rw [show μ.1 0 10 - 1 = (t : Int) by omega] at this; omega)] at h; exact h _ hrel
    · omega
  · unfold r_count at h
    have hv := hl t (by omega)
    obtain ⟨-, hv | ⟨hv0, hv1, hv2, hv3, hv4, -⟩⟩ := hv
    · omega
    · rw [if_neg (by omega), if_neg (by omega), if_neg (by omega), if_neg (by omega), if_neg (by omega), if_neg (by omega), if_pos q1, if_pos ⟨by omega, by rw [show μ.1 0 10 - 1 = (t : Int) by omega]; exact hv0⟩, show μ.1 0 10 - 1 = (t : Int) by omega] at h; exact zPe (h _ hrel) (by dsimp only; omega)
    done
  · unfold r_count at h
    have hv := hl t (by omega)
    have hv9 := hlv (t : Int)
    obtain ⟨-, hv | ⟨hv0, hv1, hv2, hv3, hv4, -⟩⟩ := hv
    · omega
    · rw [if_neg (by omega), if_neg (by omega), if_neg (by omega), if_neg (by omega), if_neg (by omega), if_neg (by omega), if_pos q1, if_pos ⟨by omega, by rw [show μ.1 0 10 - 1 = (t : Int) by omega]; exact hv0⟩, show μ.1 0 10 - 1 = (t : Int) by omega] at h; exact zPe (h _ hrel) (by dsimp only; omega)
    done
  · unfold r_count at h
    rw [if_neg (by omega), if_neg (by omega), if_neg (by omega), if_neg (by omega), if_neg (by omega), if_neg (by omega), if_neg (by omega), if_pos q1] at h
    exact zPe (h _ hrel) f8
  · unfold r_count at h
    rw [if_neg (by omega), if_neg (by omega), if_neg (by omega), if_neg (by omega), if_neg (by omega), if_neg (by omega), if_neg (by omega), if_neg (by omega)] at h
    exact h _ hrel

theorem C_check {G : zG} {σ : zSt} {Post : Option Value → zSt → Prop} {N : Int} (μ : zSt) (hrel : zRel σ μ) (hI : zInv N μ) (hN : N + 2000000 ≤ 2000000000)   (h : ∀ c1, zRel c1 (r_check μ ).2 → Post (some (.int (zI (r_check μ ).1))) c1) : zV G shC mX6_check 0 (zini 1 [.ref (zad G 0)]) [] σ Post := by
  obtain ⟨hgr, hfi, hle, hto, hna, hes, htl, hbg, hca, hsa, hme, hlc, hln, hsg, hrw, hnl, hns, hwd, hlv, hlf, hdi, htk⟩ := id hI
  obtain ⟨⟨f1, f2, f3, f4, f5, f6, f7, f8⟩, ⟨a1, a2, a3, a4, a5, a6, a7, a8, a9, a10⟩, hl⟩ := id hrel
  refine M_X6_check  (by omega) (by omega) (by rw [a8]; exact hnl) (by rw [a7, a8, f3]; exact hdi) (by omega) (by omega) (by rw [a9, f4, f3]; exact htk) ?_
  · unfold r_check at h
    exact h _ hrel

theorem C_next {G : zG} {σ : zSt} {Post : Option Value → zSt → Prop} {N : Int} (μ : zSt) (hrel : zRel σ μ) (hI : zInv N μ) (hN : N + 2000000 ≤ 2000000000) (h : ∀ c1, zRel c1 (r_next μ).2 → Post (some (.int (zI (r_next μ).1))) c1) : zV G shC mX6_next 0 (zini 5 [.ref (zad G 0)]) [] σ Post := by
  have hto := hI.2.2.2.1
  refine M_X6_next μ hrel hI hN (fun q1 q2 => ?_) (fun q => ?_)
  · unfold r_next at h; rw [if_pos ⟨q1, q2⟩] at h; exact h
  · unfold r_next at h; rw [if_neg (fun e => by have := q e.1; omega)] at h; exact h

theorem C_raw {G : zG} {σ : zSt} {Post : Option Value → zSt → Prop} {N : Int} (μ : zSt) (hrel : zRel σ μ) (hI : zInv N μ) (hN : N + 2000000 ≤ 2000000000) (h : ∀ c1, zRel c1 (r_raw μ).2 → Post (some (.int (zI (r_raw μ).1))) c1) : zV G shC mX6_raw 0 (zini 5 [.ref (zad G 0)]) [] σ Post := by
  have hto := hI.2.2.2.1
  refine M_X6_raw μ hrel hI hN (fun q1 q2 => ?_) (fun q => ?_)
  · unfold r_raw at h; rw [if_pos ⟨q1, q2⟩] at h; exact h
  · unfold r_raw at h; rw [if_neg (fun e => by have := q e.1; omega)] at h; exact h

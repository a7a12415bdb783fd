section zUm
variable {p : Program} {G : zG} {e : Env} {s : State} {m : MethodId} {below : List Frame} {meth : Method} {c : Code} {b L sa : Nat} {xs : Nat → Int32} {ac am : Nat → Nat} {oa : Nat} {cL : ClassId}
set_option maxHeartbeats 4000000 in
theorem u_loop (C : zUC p G s m meth c b L sa xs ac am oa cL) (hL : L ≤ 320) {c0 s0 : Nat} (hc : c0 + 64 ≤ 600384) (hs : s0 + 384 ≤ 7286249) : ∀ (n it kc ks : Nat) (i N : Int) (σ μ : zSt) (f : Nat → Int64) (y5 y6 : Option Value), it + n = 64 → kc = c0 + it → ks = s0 + 6 * it → i = 5 * (it : Int) → N = 2000000 * (it : Int) → zRel σ μ → zInv N μ → zU p G e s m below meth c b ac am oa cL kc ks 23 (vlv b (ac 0) (am 0) oa i y5 y6) [] σ μ f := by
  intro n
  induction n with
  | zero =>
    intro it kc ks i N σ μ f y5 y6 hn ekc eks ei eN hrel hI
    show zU p G e s m below meth c b ac am oa cL kc ks 23 [some (.ref b), some (.ref (ac 0)), some (.ref (am 0)), some (.ref oa), some (.int (zI i)), y5, y6] [] σ μ f
    refine u_iload C dL_law_23 rfl ?_
    refine u_aload C (q := 0) (i := 0) dL_law_25 rfl rfl ?_
    refine u_slen C dL_law_26 ?_
    refine u_iconst C 5 dL_law_27 rfl ?_
    refine u_isub C dL_law_28 ?_
    refine u_icmp_gt C (tgt := 715) dL_law_29 (by decide) ⟨by omega, by omega⟩ ⟨by omega, by omega⟩ (fun cA => ?_) (fun cA => ?_)
    · refine u_iconst C 1 dL_law_715 rfl ?_
      exact u_done C dL_law_716 (by omega) (by omega)
    · omega
  | succ n ih =>
    intro it kc ks i N σ μ f y5 y6 hn ekc eks ei eN hrel hI
    show zU p G e s m below meth c b ac am oa cL kc ks 23 [some (.ref b), some (.ref (ac 0)), some (.ref (am 0)), some (.ref oa), some (.int (zI i)), y5, y6] [] σ μ f
    refine u_iload C dL_law_23 rfl ?_
    refine u_aload C (q := 0) (i := 0) dL_law_25 rfl rfl ?_
    refine u_slen C dL_law_26 ?_
    refine u_iconst C 5 dL_law_27 rfl ?_
    refine u_isub C dL_law_28 ?_
    refine u_icmp_gt C (tgt := 715) dL_law_29 (by decide) ⟨by omega, by omega⟩ ⟨by omega, by omega⟩ (fun cA => ?_) (fun cA => ?_)
    · refine u_iconst C 1 dL_law_715 rfl ?_
      exact u_done C dL_law_716 (by omega) (by omega)
    · have h0 : 0 ≤ i := by omega
      have h1 : i + 5 ≤ (L : Int) := by omega
      have hN : N + 2000000 ≤ 2000000000 := by omega
      have hkc : kc + 1 ≤ 600384 := by omega
      have hks : ks + 6 ≤ 7286249 := by omega
      have kk : ∀ (σ1 μ1 : zSt) (f1 : Nat → Int64) (z5 z6 : Option Value), zRel σ1 μ1 → zInv (N + 2000000) μ1 → zU p G e s m below meth c b ac am oa cL (kc + 1) (ks + 6) 709 (vlv b (ac 0) (am 0) oa i z5 z6) [] σ1 μ1 f1 := by
        intro σ1 μ1 f1 z5 z6 hr1 hI1
        show zU p G e s m below meth c b ac am oa cL (kc + 1) (ks + 6) 709 [some (.ref b), some (.ref (ac 0)), some (.ref (am 0)), some (.ref oa), some (.int (zI i)), z5, z6] [] σ1 μ1 f1
        refine u_iinc C dL_law_709 rfl (Nat.le_of_ble_eq_true rfl) (zpvS (i := 3) rfl rfl) ?_
        refine u_goto C (tgt := 23) dL_law_712 (by decide) ?_
        exact ih (it + 1) (kc + 1) (ks + 6) (i + 5) (N + 2000000) σ1 μ1 f1 z5 z6 (by omega) (by omega) (by omega) (by omega) (by omega) hr1 hI1
      refine u_aload C (q := 0) (i := 0) dL_law_32 rfl rfl ?_
      refine u_iload C dL_law_33 rfl ?_
      refine u_sld C dL_law_35 (by omega) (by omega) hL ?_
      refine u_bipush C 31 dL_law_36 (by decide +kernel) ?_
      refine u_iand C dL_law_38 ?_
      refine u_norm ?_
      have hv : zR (zI (sv xs i) &&& zI 31).toInt := zR_toInt _
      generalize (zI (sv xs i) &&& zI 31).toInt = v at hv ⊢
      rcases (show (v < 0 ∨ 17 < v) ∨ v = 0 ∨ v = 1 ∨ v = 2 ∨ v = 3 ∨ v = 4 ∨ v = 5 ∨ v = 6 ∨ v = 7 ∨ v = 8 ∨ v = 9 ∨ v = 10 ∨ v = 11 ∨ v = 12 ∨ v = 13 ∨ v = 14 ∨ v = 15 ∨ v = 16 ∨ v = 17 by omega) with hx | rfl | rfl | rfl | rfl | rfl | rfl | rfl | rfl | rfl | rfl | rfl | rfl | rfl | rfl | rfl | rfl | rfl | rfl
      · refine u_tabOut C (tgt := 709) dL_law_39 hv hx (by decide) ?_
        refine u_wid (Nat.le_succ _) (Nat.le_add_right _ 6) ?_
        exact kk σ μ f y5 y6 hrel (zInv_mono hI (by omega))
      · exact u_tabIn C (tgt := 124) 0 dL_law_39 hv (by decide) (by decide) rfl (by decide) (u_case0 C hL h0 h1 hN hkc hks hrel hI kk)
      · exact u_tabIn C (tgt := 189) 1 dL_law_39 hv (by decide) (by decide) rfl (by decide) (u_case1 C hL h0 h1 hN hkc hks hrel hI kk)
      · exact u_tabIn C (tgt := 230) 2 dL_law_39 hv (by decide) (by decide) rfl (by decide) (u_case2 C hL h0 h1 hN hkc hks hrel hI kk)
      · exact u_tabIn C (tgt := 255) 3 dL_law_39 hv (by decide) (by decide) rfl (by decide) (u_case3 C hL h0 h1 hN hkc hks hrel hI kk)
      · exact u_tabIn C (tgt := 308) 4 dL_law_39 hv (by decide) (by decide) rfl (by decide) (u_case4 C hL h0 h1 hN hkc hks hrel hI kk)
      · exact u_tabIn C (tgt := 321) 5 dL_law_39 hv (by decide) (by decide) rfl (by decide) (u_case5 C hL h0 h1 hN hkc hks hrel hI kk)
      · exact u_tabIn C (tgt := 346) 6 dL_law_39 hv (by decide) (by decide) rfl (by decide) (u_case6 C hL h0 h1 hN hkc hks hrel hI kk)
      · exact u_tabIn C (tgt := 427) 7 dL_law_39 hv (by decide) (by decide) rfl (by decide) (u_case7 C hL h0 h1 hN hkc hks hrel hI kk)
      · exact u_tabIn C (tgt := 452) 8 dL_law_39 hv (by decide) (by decide) rfl (by decide) (u_case8 C hL h0 h1 hN hkc hks hrel hI kk)
      · exact u_tabIn C (tgt := 465) 9 dL_law_39 hv (by decide) (by decide) rfl (by decide) (u_case9 C hL h0 h1 hN hkc hks hrel hI kk)
      · exact u_tabIn C (tgt := 478) 10 dL_law_39 hv (by decide) (by decide) rfl (by decide) (u_case10 C hL h0 h1 hN hkc hks hrel hI kk)
      · exact u_tabIn C (tgt := 491) 11 dL_law_39 hv (by decide) (by decide) rfl (by decide) (u_case11 C hL h0 h1 hN hkc hks hrel hI kk)
      · exact u_tabIn C (tgt := 559) 12 dL_law_39 hv (by decide) (by decide) rfl (by decide) (u_case12 C hL h0 h1 hN hkc hks hrel hI kk)
      · exact u_tabIn C (tgt := 596) 13 dL_law_39 hv (by decide) (by decide) rfl (by decide) (u_case13 C hL h0 h1 hN hkc hks hrel hI kk)
      · exact u_tabIn C (tgt := 633) 14 dL_law_39 hv (by decide) (by decide) rfl (by decide) (u_case14 C hL h0 h1 hN hkc hks hrel hI kk)
      · exact u_tabIn C (tgt := 658) 15 dL_law_39 hv (by decide) (by decide) rfl (by decide) (u_case15 C hL h0 h1 hN hkc hks hrel hI kk)
      · exact u_tabIn C (tgt := 671) 16 dL_law_39 hv (by decide) (by decide) rfl (by decide) (u_case16 C hL h0 h1 hN hkc hks hrel hI kk)
      · exact u_tabIn C (tgt := 696) 17 dL_law_39 hv (by decide) (by decide) rfl (by decide) (u_case17 C hL h0 h1 hN hkc hks hrel hI kk)
end zUm
/-! a call of a method of the small machine, from any frame -/
def zKn (p : Program) (G : zG) (e : Env) (R : Room) (s : State) (m : MethodId) (args : Array Value) (below : List Frame) (meth : Method) (c : Code) (H0 H : Heap) (A : Nat → Prop) (kc ks : Nat) (Q : State → Prop) (sh : List zSh) (σ : zSt) (g : Option Value → JFrame) : Option Value → zSt → Prop := fun v σ' =>
  ∀ (H1 : Heap) (locs1 : List Loc), zRg σ' → va_P (zD G) vwCl (zw G sh σ') H1 → va_S A H0 H1 locs1 → H.size ≤ H1.size → (∀ q : Nat, q < H.size → ¬ va_A (zw G sh σ) H.size q → H1[q]? = H[q]?) → W p G.1 e R s m args below meth c H1 locs1 kc ks Q (g v)
section gCalls
variable {p : Program} {G : zG} {e : Env} {R : Room} {s : State} {m : MethodId} {args : Array Value} {below : List Frame} {meth : Method} {c : Code} {H0 H : Heap} {A : Nat → Prop} {kc ks : Nat} {Q : State → Prop} {sh : List zSh} {σ : zSt} {locs : List Loc} {cc : ByteArray} {nL : Nat} {Ts : List Cond} {own : String} {pc : Nat} {ls : Array Slot} {rest : List Value}
theorem g_run {st0 : List Value} {a : Array Value} (hD : ∀ σ, va_D A (zw G sh σ)) (hS : va_S A H0 H locs) (hA : ∀ q, H0.size ≤ q → A q)
    (hr : va_Run p G.1 e R s m args below meth c H locs kc ks 0 0 (F0 m pc ls st0) rest (zQ G sh (zKn p G e R s m args below meth c H0 H A kc ks Q sh σ (fun v => F0 m (pc + 3) ls (v.toList ++ rest))) (va_A (zw G sh σ) H.size) a) (va_A (zw G sh σ) H.size)) : W p G.1 e R s m args below meth c H locs kc ks Q (F0 m pc ls st0) := by
  intro T hT X
  obtain ⟨v, st₀, t, T', L, h0, X', hL, e1, e2, ⟨⟨v', σ', hv, hR', hp, hP'⟩, hz, hk⟩, stp⟩ := hr T hT X
  cases hv
  have hA9 : ∀ q, va_A (zw G sh σ) H.size q → A q := by
    rintro q (⟨i, e, he⟩ | h)
    · exact (hD σ).2 i (q, e) he
    · exact hA q (Nat.le_trans hS.1 h)
  rw [h0] at hz hk
  obtain ⟨t2, a1, b1⟩ := hp T'.heap (locs ++ L) hR' (by rw [e1]; exact hP')
    ⟨Nat.le_trans hS.1 (by rw [e1]; exact hz), fun q h1 h2 => by rw [e1, hk q (Nat.lt_of_lt_of_le h1 hS.1) (fun z => h2 (hA9 q z))]; exact hS.2.1 q h1 h2, fun q hq => by
      rcases List.mem_append.mp hq with h | h
      · exact hS.2.2 q h
      · exact hA9 _ (hL q h)⟩ (by rw [e1]; exact hz) (fun q h1 h2 => by rw [e1]; exact hk q h1 h2) T' rfl X'
  exact ⟨t2, stp t2 a1, b1⟩
theorem g_good (hsub : ∀ w ∈ wsL_law0, w ∈ Ts) {j : zM} (g2 : Cond.code j.1 j.2.1 j.2.2.1 j.2.2.2.1 ∈ wsL_law0) : GoodIn Ts (zws j) := fun w hw => by
  have hw' : w ∈ wsL_law0 := by
    rcases List.mem_cons.mp hw with rfl | h
    · exact g2
    · exact h
  exact ⟨hsub w hw', z_goodw hw'⟩
theorem g_callV {C : String} {T : u_T} {N idx i ci : Nat} {fs : List (Option Nat)} (j : zM) (As : List Value) (S : CallFix p m c cc nL s args Ts own) (hsub : ∀ w ∈ wsL_law0, w ∈ Ts) (hK : va_K (zD G) vwCl (zT G) s) (hP : va_P (zD G) vwCl (zw G sh σ) H) (hD : ∀ σ, va_D A (zw G sh σ)) (hS : va_S A H0 H locs) (hA : ∀ q, H0.size ≤ q → A q) (hR : zRg σ)
    (hj : zcalV j C As.length) (hml : Cond.methodLink own idx j.1 ∈ wsL_law0) (hrm : j.2.2.2.2.1 + 1 ≤ R.frames ∧ 8 + (j.2.2.1 + 11) + j.2.2.2.2.2.1 ≤ R.locals) (hs : sh[i]? = some (.inl (ci, fs))) (hc : vwCl[ci]? = some (C, T, N)) (hlen : (lg_sl (.ref (zad G i) :: As)).length ≤ j.2.2.1) (hcat : (rest.map fun v => v.category).sum ≤ 8) (hsz : ls.size = nL) (hce : kc ≤ R.cells) (hsl : ks ≤ R.slots) (hd : decode cc pc = .ok (.invokevirtual idx, 3))
    (kk : zV G sh j 0 (zini j.2.2.1 (.ref (zad G i) :: As)) [] σ (zKn p G e R s m args below meth c H0 H A kc ks Q sh σ (fun v => F0 m (pc + 3) ls (v.toList ++ rest)))) : W p G.1 e R s m args below meth c H locs kc ks Q (F0 m pc ls (As.reverse ++ .ref (zad G i) :: rest)) := by
  obtain ⟨⟨⟨g1, g2⟩, g3, g4, g5⟩, g6, g7⟩ := hj
  have hts : ∀ w ∈ wsL_law0, w.before args s = true := fun w h => S.2.2.2.2 w (hsub w h)
  have hM := z_met j H.size g4 g5 hlen kk hR
  have cb := callB_of (own := own) (index := idx) (R := R) (rm := zrm j) (mc := 0) (ms := 0) As.length S.2.2.2.2 (g_good hsub g2) rfl (by show j.2.2.2.2.2.2.1 = 0; rw [g5]) (by show j.2.2.2.2.2.2.2 = 0; rw [g5]) (hts _ g1) (hts _ hml) g3 hrm
  exact g_run hD hS hA (va_runV (As := As) (rest := rest) (own := own) S hM ⟨cb, hts _ g6, hts _ g7⟩ ⟨zpc_blind, va_recv hK hP hc (zw_at hs), fun U hU hW => ⟨rfl, by rw [hU], by rw [hU]; exact hP, va_K.moved hW.alike hK, fun σ => (hD σ).weaken (fun _ _ _ _ => trivial)⟩⟩ rfl rfl hsz rfl (lv_room hcat) hd ⟨hce, hsl⟩)
end gCalls

theorem zin_J0 : ∀ w ∈ wsJ00, w ∈ lw_tbl := by decide +kernel
theorem zArr {s : State} {A : Array Value} {ty : FieldType} (h : (Cond.arrayClass ty).before A s = true) (hp : ∀ c, s.vm.findClass ("[" ++ ty.toString) = some c → va_RA s c ty) : ∃ cA, ArrOfT s cA ty ∧ va_RA s cA ty := by
  obtain ⟨cA, k, comp, h1, h2, h3⟩ := Cond.arrayClass_spec h
  exact ⟨cA, fun n z => ⟨fun k9 e9 => (by cases e9), k, h2, comp, h3⟩, hp cA h1⟩
theorem zArrO {s : State} {A : Array Value} {C : String} (h : (Cond.arrayOver (.object C)).before A s = true) : ∃ cA, ArrOfT s cA (.object C) ∧ va_RA s cA (.object C) := by
  obtain ⟨comp, cA, k, h1, h2, h3, h4, h5⟩ := Cond.arrayOver_spec h
  exact ⟨cA, fun n z => ⟨fun k9 e9 => (by cases e9), k, h3, comp, h4⟩, k, comp, h3, h4, h1, h5⟩
set_option maxHeartbeats 4000000 in
set_option maxRecDepth 20000 in
/-- YOUR PART: from the entry, for every script of at most 320 ints, the law comes to its end with true ('hflags': the launch's flags, for a law that throws: no stack traces) -/
theorem whole_start {p : Program} {e : Env} {s : State} {m : MethodId} {below : List Frame} {meth : Method} {c : Code} (l : Launch) (hflags : l.flags = flags0) {b L : Nat} {xs : Nat → Int32} (hL : L ≤ 320) (C0 : lw_At p s m meth c b L xs) : W p l e room_1 s m #[Value.ref b] below meth c s.heap [] 0 0 (lw_Z below #[Value.ref b] s) (entryFrame m ([Value.ref b] : List Value).toArray 7) := by
  obtain ⟨hx, hb, hr, hml, hown, hts, hX, hbl, hlocks, hgv⟩ := id C0
  obtain ⟨c0, i0, hk0⟩ := u_known (C := RJ0) (T := TJ0) (N := 2) (n := 4) hts zin_J0 (hts (.instantiable RJ0 4) (by decide +kernel))
  obtain ⟨c1, i1, hk1⟩ := u_known (C := RJx00060) (T := TJx00060) (N := 6) (n := 6) hts in_wsJx000600 (hts (.instantiable RJx00060 6) (by decide +kernel))
  obtain ⟨c2, i2, hk2⟩ := u_known (C := RX0) (T := TX0) (N := 3) (n := 3) hts in_wsX00 (hts (.instantiable RX0 3) (by decide +kernel))
  obtain ⟨c3, i3, hk3⟩ := u_known (C := RX1) (T := TX1) (N := 10) (n := 10) hts in_wsX10 (hts (.instantiable RX1 10) (by decide +kernel))
  obtain ⟨c4, i4, hk4⟩ := u_known (C := RX2) (T := TX2) (N := 4) (n := 4) hts in_wsX20 (hts (.instantiable RX2 4) (by decide +kernel))
  obtain ⟨c5, i5, hk5⟩ := u_known (C := RX3) (T := TX3) (N := 5) (n := 5) hts in_wsX30 (hts (.instantiable RX3 5) (by decide +kernel))
  obtain ⟨c6, i6, hk6⟩ := u_known (C := RX4) (T := TX4) (N := 2) (n := 2) hts in_wsX40 (hts (.instantiable RX4 2) (by decide +kernel))
  obtain ⟨c7, i7, hk7⟩ := u_known (C := RX5) (T := TX5) (N := 2) (n := 2) hts in_wsX50 (hts (.instantiable RX5 2) (by decide +kernel))
  obtain ⟨c8, i8, hk8⟩ := u_known (C := RX6) (T := TX6) (N := 10) (n := 10) hts in_wsX60 (hts (.instantiable RX6 10) (by decide +kernel))
  obtain ⟨c9, i9, hk9⟩ := u_known (C := RX7) (T := TX7) (N := 30) (n := 30) hts in_wsX70 (hts (.instantiable RX7 30) (by decide +kernel))
  obtain ⟨dC, dI, hKc⟩ : ∃ (dC : Nat → ClassId) (dI : Nat → Nat → Nat), ∀ (k : Nat) (q : vw_C), vwCl[k]? = some q → u_Kn s q.1 q.2.1 q.2.2 (dC k) (dI k) := by
    refine ⟨fun k => if k = 0 then c0 else if k = 1 then c1 else if k = 2 then c2 else if k = 3 then c3 else if k = 4 then c4 else if k = 5 then c5 else if k = 6 then c6 else if k = 7 then c7 else if k = 8 then c8 else c9, fun k => if k = 0 then i0 else if k = 1 then i1 else if k = 2 then i2 else if k = 3 then i3 else if k = 4 then i4 else if k = 5 then i5 else if k = 6 then i6 else if k = 7 then i7 else if k = 8 then i8 else i9, ?_⟩
    intro k q hq
    match k, hq with
    | 0, hq => cases hq; exact hk0
    | 1, hq => cases hq; exact hk1
    | 2, hq => cases hq; exact hk2
    | 3, hq => cases hq; exact hk3
    | 4, hq => cases hq; exact hk4
    | 5, hq => cases hq; exact hk5
    | 6, hq => cases hq; exact hk6
    | 7, hq => cases hq; exact hk7
    | 8, hq => cases hq; exact hk8
    | 9, hq => cases hq; exact hk9
    | k + 10, hq => simp [vwCl] at hq
  obtain ⟨cI, hI1, hI2⟩ := zArr (ty := .int) (hts (.arrayClass .int) (by decide +kernel)) (fun _ h => h)
  obtain ⟨cZ, hZ1, hZ2⟩ := zArr (ty := .boolean) (hts (.arrayClass .boolean) (by decide +kernel)) (fun _ h => h)
  have hov : (Cond.arrayOver (.object RX1)).before #[Value.ref b] s = true := hts _ (by decide +kernel)
  obtain ⟨cQ, hQ1, hQ2⟩ := zArrO hov
  have hK : va_K (zD (l, dC, dI, cI, cZ, cQ, fun _ => 0)) vwCl (zT (l, dC, dI, cI, cZ, cQ, fun _ => 0)) s := ⟨hKc, fun k q hq => by
    match k, hq with
    | 0, hq => cases hq; exact ⟨hI1, hI2⟩
    | 1, hq => cases hq; exact ⟨hZ1, hZ2⟩
    | 2, hq => cases hq; exact ⟨hQ1, hQ2⟩
    | k + 3, hq => simp [zT] at hq⟩
  have hO : va_AO RX1 s := hov
  have hF := flat_of_before _ hgv
  have hex : (Cond.exactly (.string RX6 145) "java/lang/String").before #[Value.ref b] s = true := hF _ (by decide +kernel)
  obtain ⟨sa, c9a, cell, k9, hsa, -⟩ := Cond.exactly_spec hex
  have hA : ∀ a : Nat, a < s.heap.size → ¬ zOvr s a := fun a h => Nat.not_le.mpr h
  have hXs : zXs sa (zOvr s) s s.heap := ⟨vk_R.of (hts (.stringRef RX6 145 "no such token or what") (by decide +kernel)) hsa, fun w hw => va_Nw.of (zBad_tab w hw) (hts w (zAt_in w (List.mem_filter.mp hw).1)),
    vx_Zqof (hts (.laysStatic Bundle.tN "UNASSIGNED_STACK" Bundle.steD) (by decide +kernel)) (hts (.initialized Bundle.tN) (by decide +kernel)) (hF _ (by decide +kernel)) hA, vx_Zqof (hts (.laysStatic Bundle.tN "SUPPRESSED_SENTINEL" Bundle.listD) (by decide +kernel)) (hts (.initialized Bundle.tN) (by decide +kernel)) (hF _ (by decide +kernel)) hA⟩
  have hst : l.stackTraces = false := by
    unfold Launch.stackTraces
    rw [hflags]
    decide +kernel
  have hl := lv_entry ([.ref b]) (n := 7) (Nat.le_of_ble_eq_true rfl)
  rw [lg_entry_eq]
  exact s_walk (G := (l, dC, dI, cI, cZ, cQ, fun _ => 0)) ⟨⟨hx, hb, hr, hml, hown, hts, hX, hbl, hlocks⟩, hK, hO⟩ hL hXs hst s.heap [] _ (fun k q h => by simp at h) ⟨fun i j p q h => by simp at h, fun k q h => by simp at h⟩ va_S.rf (by rw [zlv_ini]; exact hl)
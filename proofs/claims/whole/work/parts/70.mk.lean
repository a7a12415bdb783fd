/-! constructors: a machine like zV, but with a world that grows -/
def zNQ (G : zG) (Post : va_W → Prop) (A : Nat → Prop) : Array Value → State → Outcome → State → Prop := fun _ st oc t =>
  (∃ w1 : va_W, oc = .returned none ∧ Post w1 ∧ va_P (zD G) vwCl w1 t.heap ∧ va_D A w1) ∧ va_F A st t
def zNC (G : zG) (k : zM) (p : Program) (s : State) (m : MethodId) (args : Array Value) (meth : Method) (c : Code) (A : Nat → Prop) : Prop :=
  p.tables.exec = Jvm.exec ∧ c.code = k.2.1 ∧ meth.sig.returnType = k.2.2.2.1 ∧ meth.locks = false ∧ c.maxLocals = k.2.2.1 ∧ (∀ w ∈ zws k, w.before args s = true) ∧ s.vm.findClass k.1.cls = some m.cls ∧ va_K (zD G) vwCl (zT G) s ∧ (∀ q, s.heap.size ≤ q → A q) ∧ meth.name = "<init>" ∧ va_AO RX1 s
def zN (G : zG) (k : zM) (kc ks pc : Nat) (lv : List (Option Value)) (st : List Value) (ws : va_W) (Post : va_W → Prop) : Prop :=
  ∀ (p : Program) (e : Env) (s : State) (m : MethodId) (args : Array Value) (below : List Frame) (meth : Method) (c : Code) (H : Heap) (locs : List Loc) (A : Nat → Prop) (ls : Array Slot),
    zNC G k p s m args meth c A → va_P (zD G) vwCl ws H → va_D A ws → va_S A s.heap H locs → lv_has ls k.2.2.1 (zlv 0 lv) →
    W p G.1 e (zrm k) s m args below meth c H locs kc ks (MQ below (zNQ G Post A) args s k.2.2.2.2.2.2.1 k.2.2.2.2.2.2.2 A) (F0 m pc ls st)
def zGa (G : zG) (ad : Nat → Nat) : zG := (G.1, G.2.1, G.2.2.1, G.2.2.2.1, G.2.2.2.2.1, G.2.2.2.2.2.1, ad)
section zNs
variable {G : zG} {k : zM} {kc ks pc : Nat} {lv : List (Option Value)} {st : List Value} {ws : va_W} {Post : va_W → Prop}
theorem n_ws {ws' : va_W} (e : ws = ws') (h : zN G k kc ks pc lv st ws' Post) : zN G k kc ks pc lv st ws Post := by rw [e]; exact h
theorem n_lv {lv' : List (Option Value)} (e : lv = lv') (h : zN G k kc ks pc lv' st ws Post) : zN G k kc ks pc lv st ws Post := by rw [e]; exact h

theorem n_iconst {n : Int} (a : Int) (hd : decode k.2.1 pc = .ok (.iconst n, 1)) (hv : Int32.ofInt n = zI a) (kk : zN G k kc ks (pc + 1) lv (.int (zI a) :: st) ws Post) : zN G k kc ks pc lv st ws Post := by
  intro p e s m args below meth c H locs A ls C hP hD hS hl
  exact lv_iconst C.1 C.2.1 hd hv (kk p e s m args below meth c H locs A ls C hP hD hS hl)

theorem n_bipush {n : Int} (a : Int) (hd : decode k.2.1 pc = .ok (.bipush n, 2)) (hv : (Int8.ofInt n).toInt32 = zI a) (kk : zN G k kc ks (pc + 2) lv (.int (zI a) :: st) ws Post) : zN G k kc ks pc lv st ws Post := by
  intro p e s m args below meth c H locs A ls C hP hD hS hl
  exact lv_bipush C.1 C.2.1 hd hv (kk p e s m args below meth c H locs A ls C hP hD hS hl)

theorem n_sipush {n : Int} (a : Int) (hd : decode k.2.1 pc = .ok (.sipush n, 3)) (hv : (Int16.ofInt n).toInt32 = zI a) (kk : zN G k kc ks (pc + 3) lv (.int (zI a) :: st) ws Post) : zN G k kc ks pc lv st ws Post := by
  intro p e s m args below meth c H locs A ls C hP hD hS hl
  exact lv_sipush C.1 C.2.1 hd hv (kk p e s m args below meth c H locs A ls C hP hD hS hl)

theorem n_dup {v : Value} (hd : decode k.2.1 pc = .ok (.dup, 1)) (hc : zc1 (some v) = true) (kk : zN G k kc ks (pc + 1) lv (v :: v :: st) ws Post) : zN G k kc ks pc lv (v :: st) ws Post := by
  intro p e s m args below meth c H locs A ls C hP hD hS hl
  exact lv_dup C.1 C.2.1 hd (zc1_spec hc) (kk p e s m args below meth c H locs A ls C hP hD hS hl)
theorem n_aload {q : Fin 4} {i : Nat} {x : Nat} (hd : decode k.2.1 pc = .ok (.aload_n q, 1)) (hi : (q : Nat) = i) (h : lv[i]? = some (some (.ref x))) (kk : zN G k kc ks (pc + 1) lv (.ref x :: st) ws Post) : zN G k kc ks pc lv st ws Post := by
  intro p e s m args below meth c H locs A ls C hP hD hS hl
  exact lv_aload_n C.1 C.2.1 hd hi (zlv_at hl h) (kk p e s m args below meth c H locs A ls C hP hD hS hl)
theorem n_iload {q : Fin 4} {i : Nat} {x : Int32} (hd : decode k.2.1 pc = .ok (.iload_n q, 1)) (hi : (q : Nat) = i) (h : lv[i]? = some (some (.int x))) (kk : zN G k kc ks (pc + 1) lv (.int x :: st) ws Post) : zN G k kc ks pc lv st ws Post := by
  intro p e s m args below meth c H locs A ls C hP hD hS hl
  exact lv_iload_n C.1 C.2.1 hd hi (zlv_at hl h) (kk p e s m args below meth c H locs A ls C hP hD hS hl)
theorem n_goto {off : Int} {tgt : Nat} (hd : decode k.2.1 pc = .ok (.goto off, 3)) (ht : (pc : Int) + off = (tgt : Int)) (kk : zN G k kc ks tgt lv st ws Post) : zN G k kc ks pc lv st ws Post := by
  intro p e s m args below meth c H locs A ls C hP hD hS hl
  exact lv_goto C.1 C.2.1 hd ht (kk p e s m args below meth c H locs A ls C hP hD hS hl)
theorem n_icmp_ge {a b : Int} {off : Int} {tgt : Nat} (hd : decode k.2.1 pc = .ok (.if_icmp .ge off, 3)) (ht : (pc : Int) + off = (tgt : Int)) (ha : zR a) (hb : zR b) (kt : b ≤ a → zN G k kc ks tgt lv st ws Post) (kf : a < b → zN G k kc ks (pc + 3) lv st ws Post) : zN G k kc ks pc lv (.int (zI b) :: .int (zI a) :: st) ws Post := by
  intro p e s m args below meth c H locs A ls C hP hD hS hl
  exact lv_icmp_ge C.1 C.2.1 hd ht (fun q => kt ((zI_le hb ha).mp q) p e s m args below meth c H locs A ls C hP hD hS hl) (fun q => kf (Int.not_le.mp (fun h => q ((zI_le hb ha).mpr h))) p e s m args below meth c H locs A ls C hP hD hS hl)

theorem zRA_inj {s : State} {cA cB : ClassId} {ty : FieldType} (h1 : va_RA s cA ty) (h2 : va_RA s cB ty) : cA = cB := by
  cases ty
  case object C =>
    obtain ⟨_, _, _, _, _, e1⟩ := h1
    obtain ⟨_, _, _, _, _, e2⟩ := h2
    exact Option.some.inj (e1.symm.trans e2)
  all_goals exact Option.some.inj (Eq.trans (Eq.symm h1) h2)
def zPuF (own : String) (idx ci j : Nat) (ty : FieldType) : Prop := ∃ (C : String) (T : u_T) (N : Nat) (tyf : Nat → FieldType), vwCl[ci]? = some (C, T, N) ∧ (∀ w ∈ u_ws C T N, w ∈ wsL_law0) ∧ j < N ∧ Cond.fieldLink own idx (T j).1 (T j).2.1 (T j).2.2.1 ∈ wsL_law0 ∧ (∀ k, k < N → parseFieldDescriptor (T k).2.2.1 = some (tyf k)) ∧ (∀ a, a < N → ∀ b, b < N → a ≠ b → (T a).2.1 ≠ (T b).2.1) ∧ (T j).2.2.2 = true ∧ (T j).1 = own ∧ parseFieldDescriptor (T j).2.2.1 = some ty
def zNew (own : String) (idx ci N : Nat) (fs : List Value) : Prop := ∃ (C : String) (T : u_T) (tyf : Nat → FieldType), vwCl[ci]? = some (C, T, N) ∧ (∀ w ∈ u_ws C T N, w ∈ wsL_law0) ∧ (∀ k, k < N → parseFieldDescriptor (T k).2.2.1 = some (tyf k)) ∧ Cond.classLink own idx C ∈ wsL_law0 ∧ Cond.instantiable C N ∈ wsL_law0 ∧ Cond.initialized C ∈ wsL_law0 ∧ ∀ j, j < N → defaultValue (tyf j) = vp_V fs j
theorem n_getR {idx ci j q0 a : Nat} {fs : List Value} {v : Value} (hd : decode k.2.1 pc = .ok (.getfield idx, 3)) (hf : zFld k.1.cls idx ci j) (he : ws[q0]? = some (a, .inr (ci, fs))) (hv : fs[j]? = some v) (kk : zN G k kc ks (pc + 3) lv (v :: st) ws Post) : zN G k kc ks pc lv (.ref a :: st) ws Post := by
  intro p e s m args below meth c H locs A ls C hP hD hS hl
  obtain ⟨Cn, Tf, Nf, ref, h1, h2, h3, h4, h5⟩ := hf
  exact va_get (D := zD G) (C := Cn) (T := Tf) (N := Nf) (ref := ref) C.1 C.2.1 C.2.2.2.2.2.1 (fun w hw => List.mem_cons_of_mem _ (h2 w hw)) C.2.2.2.2.2.2.1 C.2.2.2.2.2.2.2.1 hP q0 he h1 j h3 (C.2.2.2.2.2.1 _ (List.mem_cons_of_mem _ h4)) (fun x hx => by rw [h5]; exact hx) hv hd (kk p e s m args below meth c H locs A ls C hP hD hS hl)
theorem n_putI {idx ci j a : Nat} {fs : List Value} {x : Int} (q0 : Nat) (hd : decode k.2.1 pc = .ok (.putfield idx, 3)) (hf : zPut k.1.cls idx ci j .int) (he : ws[q0]? = some (a, .inr (ci, fs))) (hlf : j < fs.length) (kk : zN G k kc ks (pc + 3) lv st (ws.set q0 (a, .inr (ci, fs.set j (.int (zI x))))) Post) : zN G k kc ks pc lv (.int (zI x) :: .ref a :: st) ws Post := by
  intro p e s m args below meth c H locs A ls C hP hD hS hl
  obtain ⟨Cn, Tf, Nf, ref, tyf, h1, h2, h3, h4, h5, h6, h7, h8, h9⟩ := hf
  exact va_put (D := zD G) (C := Cn) (T := Tf) (N := Nf) (ref := ref) (ty := .int) C.1 C.2.1 C.2.2.2.2.2.1 (fun w hw => List.mem_cons_of_mem _ (h2 w hw)) tyf h6 h7 C.2.2.2.2.2.2.1 C.2.2.2.2.2.2.2.1 hP hD hS q0 he h1 j h3 (C.2.2.2.2.2.1 _ (List.mem_cons_of_mem _ h4)) (fun x hx => by rw [h5]; exact hx) h8 h9 rfl rfl hlf hd (fun H1 locs1 hP1 hD1 hS1 => kk p e s m args below meth c H1 locs1 A ls C hP1 hD1 hS1 hl)
theorem n_putF {idx ci j a : Nat} {fs : List Value} {v : Value} {ty : FieldType} (q0 : Nat) (hd : decode k.2.1 pc = .ok (.putfield idx, 3)) (hf : zPuF k.1.cls idx ci j ty) (he : ws[q0]? = some (a, .inr (ci, fs))) (hlf : j < fs.length) (hn : narrow ty v = v) (hft : fits ty v = true) (kk : zN G k kc ks (pc + 3) lv st (ws.set q0 (a, .inr (ci, fs.set j v))) Post) : zN G k kc ks pc lv (v :: .ref a :: st) ws Post := by
  intro p e s m args below meth c H locs A ls C hP hD hS hl
  obtain ⟨Cn, Tf, Nf, tyf, h1, h2, h3, h4, h6, h7, h8, h9, h10⟩ := hf
  exact va_putF (D := zD G) (C := Cn) (T := Tf) (N := Nf) (ref := (Tf j).1) (ty := ty) C.1 C.2.1 C.2.2.2.2.2.1 (fun w hw => List.mem_cons_of_mem _ (h2 w hw)) tyf h6 h7 C.2.2.2.2.2.2.1 C.2.2.2.2.2.2.2.1 hP hD hS q0 he h1 j h3 (C.2.2.2.2.2.1 _ (List.mem_cons_of_mem _ h4)) (fun x hx => hx) h8 C.2.2.2.2.2.2.2.2.2.1 h9 h10 hn hft hlf hd (fun H1 locs1 hP1 hD1 hS1 => kk p e s m args below meth c H1 locs1 A ls C hP1 hD1 hS1 hl)
theorem n_newaI {n : Int} (N : Nat) (hd : decode k.2.1 pc = .ok (.newarray .int, 2)) (hn : n = (N : Int)) (hN : N ≤ 100000) (hc : kc + 1 ≤ k.2.2.2.2.2.2.1) (hs : ks + N ≤ k.2.2.2.2.2.2.2) (hw : Cond.arrayClass .int ∈ wsL_law0) (kk : ∀ q, zN G k (kc + 1) (ks + N) (pc + 2) lv (.ref q :: st) (ws ++ [(q, .inl (G.2.2.2.1, N, .inl fun _ => zI 0))]) Post) : zN G k kc ks pc lv (.int (zI n) :: st) ws Post := by
  intro p e s m args below meth c H locs A ls C hP hD hS hl
  subst hn
  refine va_newa (D := zD G) (atype := .int) (ty := .int) (N' := N) (a0 := (N, .inl fun _ => zI 0)) C.1 C.2.1 (C.2.2.2.2.2.1 _ (List.mem_cons_of_mem _ hw)) rfl C.2.2.2.2.2.2.2.1 hP hD hS C.2.2.2.2.2.2.2.2.1 (fun cA => rfl) (fun h => by rw [zI_lt0 (by omega)] at h; omega) (by rw [zI_cl (by omega) (by omega)]; omega) (by show N * 4 ≤ 536870912; omega) hc hs hd (fun q cA H1 hK1 hP1 hD1 hS1 => ?_)
  have e1 : cA = G.2.2.2.1 := zRA_inj (hK1.2 3 (cA, .int) rfl).2 (C.2.2.2.2.2.2.2.1.2 0 _ (zT0 G)).2
  rw [e1] at hP1 hD1
  exact kk q p e s m args below meth c H1 locs A ls C hP1 hD1 hS1 hl
theorem n_newaZ {n : Int} (N : Nat) (hd : decode k.2.1 pc = .ok (.newarray .boolean, 2)) (hn : n = (N : Int)) (hN : N ≤ 100000) (hc : kc + 1 ≤ k.2.2.2.2.2.2.1) (hs : ks + N ≤ k.2.2.2.2.2.2.2) (hw : Cond.arrayClass .boolean ∈ wsL_law0) (kk : ∀ q, zN G k (kc + 1) (ks + N) (pc + 2) lv (.ref q :: st) (ws ++ [(q, .inl (G.2.2.2.2.1, N, .inl fun _ => zI 0))]) Post) : zN G k kc ks pc lv (.int (zI n) :: st) ws Post := by
  intro p e s m args below meth c H locs A ls C hP hD hS hl
  subst hn
  refine va_newa (D := zD G) (atype := .boolean) (ty := .boolean) (N' := N) (a0 := (N, .inl fun _ => zI 0)) C.1 C.2.1 (C.2.2.2.2.2.1 _ (List.mem_cons_of_mem _ hw)) rfl C.2.2.2.2.2.2.2.1 hP hD hS C.2.2.2.2.2.2.2.2.1 (fun cA => rfl) (fun h => by rw [zI_lt0 (by omega)] at h; omega) (by rw [zI_cl (by omega) (by omega)]; omega) (by show N * 1 ≤ 536870912; omega) hc hs hd (fun q cA H1 hK1 hP1 hD1 hS1 => ?_)
  have e1 : cA = G.2.2.2.2.1 := zRA_inj (hK1.2 3 (cA, .boolean) rfl).2 (C.2.2.2.2.2.2.2.1.2 1 _ (zT1 G)).2
  rw [e1] at hP1 hD1
  exact kk q p e s m args below meth c H1 locs A ls C hP1 hD1 hS1 hl
theorem n_newq {n : Int} {index : Nat} (N : Nat) (hd : decode k.2.1 pc = .ok (.anewarray index, 3)) (hn : n = (N : Int)) (hN : N ≤ 100000) (hcl : Cond.classLink k.1.cls index RX1 ∈ wsL_law0) (hc : kc + 1 ≤ k.2.2.2.2.2.2.1) (hs : ks + N ≤ k.2.2.2.2.2.2.2) (kk : ∀ q, zN G k (kc + 1) (ks + N) (pc + 3) lv (.ref q :: st) (ws ++ [(q, .inl (G.2.2.2.2.2.1, N, .inr (.inr (.inr (.inr fun _ => none)))))]) Post) : zN G k kc ks pc lv (.int (zI n) :: st) ws Post := by
  intro p e s m args below meth c H locs A ls C hP hD hS hl
  subst hn
  refine va_newq (D := zD G) (own := k.1.cls) (C := RX1) (N' := N) C.1 C.2.1 C.2.2.2.2.2.2.1 (C.2.2.2.2.2.1 _ (List.mem_cons_of_mem _ hcl)) C.2.2.2.2.2.2.2.2.2.2 C.2.2.2.2.2.2.2.1 hP hD hS C.2.2.2.2.2.2.2.2.1 (fun h => by rw [zI_lt0 (by omega)] at h; omega) (by rw [zI_cl (by omega) (by omega)]; omega) (by omega) hc hs hd (fun q cA H1 hK1 hP1 hD1 hS1 => ?_)
  have e1 : cA = G.2.2.2.2.2.1 := zRA_inj (hK1.2 3 (cA, .object RX1) rfl).2 (C.2.2.2.2.2.2.2.1.2 2 _ (zT2 G)).2
  rw [e1] at hP1 hD1
  exact kk q p e s m args below meth c H1 locs A ls C hP1 hD1 hS1 hl
theorem n_new {index ci N : Nat} {fs : List Value} (hd : decode k.2.1 pc = .ok (.new index, 3)) (hf : zNew k.1.cls index ci N fs) (hc : kc + 1 ≤ k.2.2.2.2.2.2.1) (hs : ks + N ≤ k.2.2.2.2.2.2.2) (kk : ∀ q, zN G k (kc + 1) (ks + N) (pc + 3) lv (.ref q :: st) (ws ++ [(q, .inr (ci, fs))]) Post) : zN G k kc ks pc lv st ws Post := by
  intro p e s m args below meth c H locs A ls C hP hD hS hl
  obtain ⟨Cn, Tf, tyf, h1, h2, h3, h4, h5, h6, h7⟩ := hf
  exact va_new (D := zD G) (own := k.1.cls) (C := Cn) (T := Tf) (N := N) C.1 C.2.1 C.2.2.2.2.2.1 (fun w hw => List.mem_cons_of_mem _ (h2 w hw)) tyf h3 C.2.2.2.2.2.2.1 (C.2.2.2.2.2.1 _ (List.mem_cons_of_mem _ h4)) (C.2.2.2.2.2.1 _ (List.mem_cons_of_mem _ h5)) (C.2.2.2.2.2.1 _ (List.mem_cons_of_mem _ h6)) C.2.2.2.2.2.2.2.1 hP hD hS C.2.2.2.2.2.2.2.2.1 h1 h7 hc hs hd (fun q H1 hP1 hD1 hS1 => kk q p e s m args below meth c H1 locs A ls C hP1 hD1 hS1 hl)
theorem n_astq {z : Int} {n v a : Nat} {vs : List Value} {f : Nat → Option Nat} (q0 qk : Nat) (hd : decode k.2.1 pc = .ok (.aastore, 1)) (ha : ws[q0]? = some (a, .inl (G.2.2.2.2.2.1, n, .inr (.inr (.inr (.inr f)))))) (hv : ws[qk]? = some (v, .inr (3, vs))) (h0 : 0 ≤ z) (h1 : z < n) (hn : n < 2147483648) (kk : zN G k kc ks (pc + 1) lv st (ws.set q0 (a, .inl (G.2.2.2.2.2.1, n, .inr (.inr (.inr (.inr (va_up f z.toNat (some v)))))))) Post) : zN G k kc ks pc lv (.ref v :: .int (zI z) :: .ref a :: st) ws Post := by
  intro p e s m args below meth c H locs A ls C hP hD hS hl
  refine va_astq (D := zD G) C.1 C.2.1 C.2.2.2.2.2.2.2.1 hP hD hS q0 2 qk 3 (r := (RX1, TX1, 10)) ha (zT2 G) hv rfl (zI_in h0 h1 hn) hd (fun H1 locs1 hP1 hD1 hS1 => ?_)
  rw [zI_cl h0 (by omega)] at hP1 hD1
  exact kk p e s m args below meth c H1 locs1 A ls C hP1 hD1 hS1 hl
theorem n_obj {idx a : Nat} (hd : decode k.2.1 pc = .ok (.invokespecial idx, 3)) (hl1 : Cond.methodLink k.1.cls idx objectInit ∈ wsL_law0) (hi : Cond.instanceMethod objectInit ∈ wsL_law0) (hco : Cond.code objectInit ⟨#[0xb1]⟩ 1 none ∈ wsL_law0) (hf : 1 ≤ k.2.2.2.2.1) (hlo : (st.map fun v => v.category).sum + 12 ≤ k.2.2.2.2.2.1) (kk : zN G k kc ks (pc + 3) lv st ws Post) : zN G k kc ks pc lv (.ref a :: st) ws Post := by
  intro p e s m args below meth c H locs A ls C hP hD hS hl
  have hts := fun w h => C.2.2.2.2.2.1 w (List.mem_cons_of_mem _ h)
  refine W.objInit (own := k.1.cls) C.1 C.2.1 C.2.2.2.2.2.2.1 (hts _ hl1) (hts _ hi) (hts _ hco) rfl (by rw [C.2.2.2.2.1]; exact hl.1) rfl hd hf (by rw [show (F0 m pc ls (Value.ref a :: st)).monitorRoom = 0 from rfl]; have h9 : (st.map fun v => v.category).sum + 12 ≤ (zrm k).locals := hlo; omega) ?_
  exact kk p e s m args below meth c H locs A ls C hP hD hS hl
theorem n_ret (hd : decode k.2.1 pc = .ok (.return_, 1)) (hr : k.2.2.2.1 = none) (hc : kc = k.2.2.2.2.2.2.1) (hs : ks = k.2.2.2.2.2.2.2) (h : Post ws) : zN G k kc ks pc lv [] ws Post := by
  intro p e s m args below meth c H locs A ls C hP hD hS hl
  subst hc; subst hs
  have hlocks := C.2.2.2.1
  exact W.vret C.1 C.2.1 (C.2.2.1.trans hr) (fun t ht hW => ⟨⟨ws, rfl, h, by rw [ht]; exact hP, hD⟩, hS.F ht⟩) hS.2.2 hd
theorem n_toV {ad : Nat → Nat} {sh : List zSh} {σ : zSt} (hw : ws = zw (zGa G ad) sh σ) (hR : zRg σ) (hc : kc = k.2.2.2.2.2.2.1) (hs : ks = k.2.2.2.2.2.2.2) (kk : zV (zGa G ad) sh k pc lv st σ (fun v σ' => v = none ∧ Post (zw (zGa G ad) sh σ'))) : zN G k kc ks pc lv st ws Post := by
  intro p e s m args below meth c H locs A ls C hP hD hS hl
  subst hc; subst hs; subst hw
  have hDa : ∀ σ', va_D A (zw (zGa G ad) sh σ') := fun σ' => ⟨fun i j p q h1 h2 e => by
      obtain ⟨e1, g1⟩ := zw_adr (σ := σ) h1
      obtain ⟨e2, g2⟩ := zw_adr (σ := σ) h2
      exact hD.1 i j _ _ g1 g2 e, fun i q h1 => by
      obtain ⟨e1, g1⟩ := zw_adr (σ := σ) h1
      exact hD.2 i (q.1, e1) g1⟩
  intro T hT X
  obtain ⟨t, h1, o, h2, h3, ⟨⟨v, σ', e1, e2, ⟨e3, e6⟩, e4⟩, e5⟩, h4⟩ := kk hR p e s m args below meth c H locs A ls ⟨C.1, C.2.1, C.2.2.1, C.2.2.2.1, C.2.2.2.2.1, C.2.2.2.2.2.1, C.2.2.2.2.2.2.1, C.2.2.2.2.2.2.2.1, hDa, C.2.2.2.2.2.2.2.2.1⟩ hP hS hl T hT X
  subst e3
  exact ⟨t, h1, o, h2, h3, ⟨⟨_, e1, e6, e4, hDa σ'⟩, e5⟩, h4⟩
def zcalI (j : zM) : Prop := (Cond.initialized j.1.cls ∈ wsL_law0 ∧ Cond.code j.1 j.2.1 j.2.2.1 none ∈ wsL_law0) ∧ (j.1.cls ≠ "java/lang/invoke/MethodHandle" ∧ j.1.cls ≠ "java/lang/invoke/VarHandle" ∧ (parseMethodDescriptor j.1.desc).map (fun d => d.parameters.length) = some 0) ∧ plainName j.1.cls = true ∧ Cond.instanceMethod j.1 ∈ wsL_law0 ∧ j.1.name = "<init>" ∧ j.2.2.2.1 = none
def zpcN (G : zG) (w0 : va_W) (sz : Nat) (as : List Value) : Array Value → State → Prop := va_Pc as (fun U => U.heap.size = sz ∧ va_P (zD G) vwCl w0 U.heap ∧ (va_K (zD G) vwCl (zT G) U ∧ va_AO RX1 U) ∧ va_D (fun _ => True) w0)
theorem zpcN_blind {w0 : va_W} {sz : Nat} {as : List Value} : FrameBlind (zpcN G w0 sz as) := fun a U g mk q => by
  obtain ⟨q0, q1, qP, ⟨qK, qO⟩, qD⟩ := q
  exact ⟨q0, q1, qP, ⟨va_K.moved (u := U) (U := U.calling g mk a) (Vm.Alike.refl U.vm) qK, va_AO.moved (u := U) (U := U.calling g mk a) (Vm.Alike.refl U.vm) qO⟩, qD⟩
theorem n_met (j : zM) {w0 : va_W} {as : List Value} (sz : Nat) (hy : plainName j.1.cls = true) (hn : j.1.name = "<init>") (hlen : (lg_sl as).length ≤ j.2.2.1) (hV : zN G j 0 0 0 (zini j.2.2.1 as) [] w0 Post) :
    Met G.1 j.1 (zws j) (zrm j) (zpcN G w0 sz as) (zNQ G Post (va_A w0 sz)) j.2.2.2.2.2.2.1 j.2.2.2.2.2.2.2 (va_A w0 sz) := by
  refine Met.ofW (cc := j.2.1) (maxL := j.2.2.1) (ret := j.2.2.2.1) hy rfl ?_
  intro p e s m args below meth c s₁ B hml hv
  obtain ⟨rfl, hsz, hP, ⟨hK, hO⟩, hD0⟩ := hv
  have hl := lv_entry as (n := j.2.2.1) hlen
  rw [lg_entry_eq]
  refine hV p e s m _ below meth c s.heap [] (va_A w0 sz) _ ⟨B.exec, B.bytes, B.returns, B.notSynchronized, hml, atoms_spec (ws := zws j) B.pre, findClass_of_methodNamed B.named, hK, fun q hq => Or.inr (by rw [← hsz]; exact hq), (name_of_methodNamed B.named B.method).1.trans hn, hO⟩ hP hD0.self va_S.rf ?_
  rw [zlv_ini]; exact hl
theorem n_init {idx h0 : Nat} {o : va_E} {wr : va_W} (j : zM) (hd : decode k.2.1 pc = .ok (.invokespecial idx, 3)) (hj : zcalI j) (hml : Cond.methodLink k.1.cls idx j.1 ∈ wsL_law0) (hrm : j.2.2.2.2.1 + 1 ≤ k.2.2.2.2.1 ∧ 8 + (j.2.2.1 + 11) + j.2.2.2.2.2.1 ≤ k.2.2.2.2.2.1) (hlen : (lg_sl [.ref h0]).length ≤ j.2.2.1) (hcat : (st.map fun v => v.category).sum ≤ 8) (hc : kc + j.2.2.2.2.2.2.1 ≤ k.2.2.2.2.2.2.1) (hs : ks + j.2.2.2.2.2.2.2 ≤ k.2.2.2.2.2.2.2)
    (kk : zN G j 0 0 0 (zini j.2.2.1 [.ref h0]) [] [(h0, o)] (fun w1 => zN G k (kc + j.2.2.2.2.2.2.1) (ks + j.2.2.2.2.2.2.2) (pc + 3) lv st (wr ++ w1) Post)) : zN G k kc ks pc lv (.ref h0 :: st) (wr ++ [(h0, o)]) Post := by
  intro p e s m args below meth c H locs A ls C hP hD hS hl
  obtain ⟨⟨g1, g2⟩, g3, g4, g5, g6, g7⟩ := hj
  have hts := fun w h => C.2.2.2.2.2.1 w (List.mem_cons_of_mem _ h)
  have hM := n_met j H.size g4 g6 hlen kk
  have hgood : GoodIn (zws k) (zws j) := fun w hw => by
    have hw' : w ∈ wsL_law0 := by
      rcases List.mem_cons.mp hw with rfl | h
      · rw [g7]; exact g2
      · exact h
    exact ⟨List.mem_cons_of_mem _ hw', z_goodw hw'⟩
  have hat : (wr ++ [(h0, o)])[wr.length]? = some (h0, o) := by rw [List.getElem?_append_right (Nat.le_refl _), Nat.sub_self]; rfl
  have hPc : va_P (zD G) vwCl [(h0, o)] H := fun i q hq => by
    cases i with
    | zero => cases hq; exact hP _ _ hat
    | succ i => cases hq
  have hDc : va_D (fun _ => True) [(h0, o)] := ⟨fun i j p q h1 h2 _ => by
      have a1 := (List.getElem?_eq_some_iff.mp h1).1
      have a2 := (List.getElem?_eq_some_iff.mp h2).1
      simp at a1 a2; omega, fun _ _ _ => trivial⟩
  have cb := cwI (own := k.1.cls) (index := idx) (R := zrm k) (rm := zrm j) (mc := j.2.2.2.2.2.2.1) (ms := j.2.2.2.2.2.2.2) (y := j.1) (bytes := j.2.1) (maxL := j.2.2.1) 0 C.2.2.2.2.2.1 hgood (by rw [zws, g7]) rfl rfl (hts _ g1) (hts _ hml) (hts _ g5) g6 g3 hrm
  have hrun := va_runI (As := []) (rest := st) (own := k.1.cls) (e := e) (below := below) (meth := meth) (H := H) (locs := locs) (cells := kc) (slots := ks) (g := F0 m pc ls (.ref h0 :: st)) ⟨C.1, C.2.1, C.2.2.2.2.1, C.2.2.2.2.2.2.1, C.2.2.2.2.2.1⟩ hM cb ⟨zpcN_blind, fun U hU hW => ⟨rfl, by rw [hU], by rw [hU]; exact hPc, ⟨va_K.moved hW.alike C.2.2.2.2.2.2.2.1, va_AO.moved hW.alike C.2.2.2.2.2.2.2.2.2.2⟩, hDc⟩⟩ rfl rfl hl.1 rfl (lv_room hcat) hd ⟨hc, hs⟩
  have h0lt : h0 < H.size := (hP _ _ hat).lt
  have hA1 : ∀ q, va_A [(h0, o)] H.size q → A q := by
    rintro q (⟨i, e', he⟩ | h)
    · cases i with
      | zero => cases he; exact hD.2 _ _ hat
      | succ i => cases he
    · exact C.2.2.2.2.2.2.2.2.1 q (Nat.le_trans hS.1 h)
  intro T hT X
  obtain ⟨v, st₀, t, T', L, e0, X', hL, e1, e2, ⟨⟨w1, hv, hp, hP', hD'⟩, hz, hk⟩, stp⟩ := hrun T hT X
  cases hv
  rw [e0] at hz hk
  have hkp : ∀ (i : Nat) (q : Nat × va_E), wr[i]? = some q → t.heap[q.1]? = H[q.1]? ∧ q.1 < H.size ∧ q.1 ≠ h0 := fun i q hq => by
    have hi : i < wr.length := (List.getElem?_eq_some_iff.mp hq).1
    have hq' : (wr ++ [(h0, o)])[i]? = some q := by rw [List.getElem?_append_left hi]; exact hq
    have hlt : q.1 < H.size := (hP _ _ hq').lt
    have hne : q.1 ≠ h0 := fun e => by have := hD.1 _ _ _ _ hq' hat e; omega
    refine ⟨hk q.1 hlt ?_, hlt, hne⟩
    rintro (⟨i', e', he⟩ | h)
    · cases i' with
      | zero => cases he; exact hne rfl
      | succ i' => cases he
    · omega
  have hPn : va_P (zD G) vwCl (wr ++ w1) T'.heap := by
    rw [e1]
    refine va_P.app (fun i q hq => ?_) hP'
    have hi : i < wr.length := (List.getElem?_eq_some_iff.mp hq).1
    have hq' : (wr ++ [(h0, o)])[i]? = some q := by rw [List.getElem?_append_left hi]; exact hq
    exact (hP _ _ hq').kept (hkp i q hq).1
  have hDn : va_D A (wr ++ w1) := by
    refine va_D.app ⟨fun i j p q h1 h2 he => ?_, fun i q h1 => ?_⟩ (hD'.weaken (fun i q h1 h2 => hA1 _ h2)) (fun i j p q h1 h2 he => ?_)
    · have hi : i < wr.length := (List.getElem?_eq_some_iff.mp h1).1
      have hj : j < wr.length := (List.getElem?_eq_some_iff.mp h2).1
      exact hD.1 i j p q (by rw [List.getElem?_append_left hi]; exact h1) (by rw [List.getElem?_append_left hj]; exact h2) he
    · have hi : i < wr.length := (List.getElem?_eq_some_iff.mp h1).1
      exact hD.2 i q (by rw [List.getElem?_append_left hi]; exact h1)
    · have g := hkp i p h1
      rcases hD'.2 j q h2 with ⟨i', e', he'⟩ | h
      · cases i' with
        | zero => cases he'; exact g.2.2 he
        | succ i' => cases he'
      · omega
  obtain ⟨t2, a1, b1⟩ := hp p e s m args below meth c T'.heap (locs ++ L) A ls C hPn hDn
    ⟨Nat.le_trans hS.1 (by rw [e1]; exact hz), fun q h1 h2 => by rw [e1, hk q (Nat.lt_of_lt_of_le h1 hS.1) (fun z => h2 (hA1 q z))]; exact hS.2.1 q h1 h2, fun q hq => by
      rcases List.mem_append.mp hq with h | h
      · exact hS.2.2 q h
      · exact hA1 _ (hL q h)⟩ hl T' rfl X'
  exact ⟨t2, stp t2 a1, b1⟩

end zNs

/-! THE CLAIM OUT OF ONE WALK OF THE LAW'S BODY. Your part is whole_start (and what it stands on); all else here is the same for every law, but numbers. -/
def R_law : String := "SignCategoriesLaw"
def lw_P (b : Addr) (xs : List Int32) (args : Array Value) (s : State) : Prop := args = #[.ref b] ∧ s.IntsAt b xs ∧ xs.length ≤ 320 ∧ (Jvm.Cond.and given_1 narrow_1).before args s = true
def lw_Q (_ : Array Value) (s : State) (o : Outcome) (t : State) : Prop := o = .returned (some (.int 1)) ∧ Framed s o t [] 600384 7286249
def lw_Z (below : List Frame) (a : Array Value) (s : State) : State → Prop := fun t => ∃ o, t.status = .running ∧ Ended t below o ∧ lw_Q a s o t
/-- the law's own end, with 1 on the stack, nothing written that was there before, its room as the claim has it -/
theorem lw_ret {p : Program} {l : Launch} {e : Env} {s : State} {m : MethodId} {below : List Frame} {meth : Method} {c : Code} {b : Nat} (hx : p.tables.exec = Jvm.exec) (hb : c.code = code) (hr : meth.sig.returnType = ret) (hlocks : meth.locks = false) {pc : Nat} {H : Heap} {ls : Array Slot} (hdg : decode code pc = .ok (.ireturn, 1)) : W p l e room_1 s m #[Value.ref b] below meth c H [] 600384 7286249 (lw_Z below #[Value.ref b] s) (F0 m pc ls [.int 1]) := by
  intro T hT X
  obtain ⟨fs, hret, hrun, hended, hW, hframe⟩ := X.leave (v := some (.int 1)) (hlocks := hlocks) (fun h => by rw [hr] at h; cases h)
  have hmeth' : T.vm.method? m = some meth := X.method'
  refine ⟨T.setFrames fs, ?_, .returned (some (.int 1)), hrun, hended, rfl, ⟨_, rfl⟩, hW, hframe⟩
  jvm_step X.here [X.here.top, hx, hb, hdg, hmeth', hr, ret, narrow_b1]
  (try refine ⟨rfl, ?_⟩); (try refine ⟨rfl, ?_⟩)
  first | (intro acts; rw [hret _ acts rfl rfl rfl]) | rw [hret _ _ rfl rfl rfl]
  exact Steps.refl _
/-- what holds at the law's entry: the machine, the code, the tables' words (any of lw_tbl by 'hts w (by decide +kernel)'), the script of L ints xs at the cell b, what the Statement gives of the start (any of its parts by flat_of_before) -/
def lw_At (p : Program) (s : State) (m : MethodId) (meth : Method) (c : Code) (b L : Nat) (xs : Nat → Int32) : Prop :=
  p.tables.exec = Jvm.exec ∧ c.code = code ∧ meth.sig.returnType = ret ∧ c.maxLocals = 7 ∧ s.vm.findClass R_law = some m.cls ∧ (∀ w ∈ lw_tbl, w.before #[Value.ref b] s = true) ∧ va_X b L xs s s.heap ∧ b < s.heap.size ∧ meth.locks = false ∧ (Jvm.Cond.and given_1 narrow_1).before #[Value.ref b] s = true

set_option maxRecDepth 20000 in
theorem wsL_in_r1 : ∀ w ∈ wsL_law0_r1, w ∈ lw_tbl := fun w h => (goodIn_p wsL_law0_r1 [43, 46] rfl (by decide +kernel) w h).1
set_option maxRecDepth 20000 in
theorem wsL_in_r2 : ∀ w ∈ wsL_law0_r2, w ∈ lw_tbl := fun w h => (goodIn_p wsL_law0_r2 [51] rfl (by decide +kernel) w h).1
set_option maxRecDepth 20000 in
theorem wsL_in_r3 : ∀ w ∈ wsL_law0_r3, w ∈ lw_tbl := fun w h => (goodIn_p wsL_law0_r3 [55, 72, 94, 141] rfl (by decide +kernel) w h).1
set_option maxRecDepth 20000 in
theorem wsL_in_r4 : ∀ w ∈ wsL_law0_r4, w ∈ lw_tbl := fun w h => (goodIn_p wsL_law0_r4 [164, 178, 587] rfl (by decide +kernel) w h).1
set_option maxRecDepth 20000 in
theorem wsL_in_r5 : ∀ w ∈ wsL_law0_r5, w ∈ lw_tbl := fun w h => (goodIn_p wsL_law0_r5 [222, 225, 229] rfl (by decide +kernel) w h).1
set_option maxRecDepth 20000 in
theorem wsL_in_r6 : ∀ w ∈ wsL_law0_r6, w ∈ lw_tbl := fun w h => (goodIn_p wsL_law0_r6 [233, 687, 690, 238, 242] rfl (by decide +kernel) w h).1
set_option maxRecDepth 20000 in
theorem wsL_in_r7 : ∀ w ∈ wsL_law0_r7, w ∈ lw_tbl := fun w h => (goodIn_p wsL_law0_r7 [249, 694, 253, 698, 257, 702] rfl (by decide +kernel) w h).1
set_option maxRecDepth 20000 in
theorem wsL_in_r8 : ∀ w ∈ wsL_law0_r8, w ∈ lw_tbl := fun w h => (goodIn_p wsL_law0_r8 [261, 265, 706, 269, 273] rfl (by decide +kernel) w h).1
set_option maxRecDepth 20000 in
theorem wsL_in_r9 : ∀ w ∈ wsL_law0_r9, w ∈ lw_tbl := fun w h => (goodIn_p wsL_law0_r9 [277, 281, 710, 714, 286, 290] rfl (by decide +kernel) w h).1
set_option maxRecDepth 20000 in
theorem wsL_in_r10 : ∀ w ∈ wsL_law0_r10, w ∈ lw_tbl := fun w h => (goodIn_p wsL_law0_r10 [294, 718, 298, 302] rfl (by decide +kernel) w h).1
set_option maxRecDepth 20000 in
theorem wsL_in_r11 : ∀ w ∈ wsL_law0_r11, w ∈ lw_tbl := fun w h => (goodIn_p wsL_law0_r11 [723, 306, 310, 727, 314, 318] rfl (by decide +kernel) w h).1
set_option maxRecDepth 20000 in
theorem wsL_in_r12 : ∀ w ∈ wsL_law0_r12, w ∈ lw_tbl := fun w h => (goodIn_p wsL_law0_r12 [322, 327, 332] rfl (by decide +kernel) w h).1
set_option maxRecDepth 20000 in
theorem wsL_in_r13 : ∀ w ∈ wsL_law0_r13, w ∈ lw_tbl := fun w h => (goodIn_p wsL_law0_r13 [336, 340, 344, 348, 352] rfl (by decide +kernel) w h).1
set_option maxRecDepth 20000 in
theorem wsL_in_r14 : ∀ w ∈ wsL_law0_r14, w ∈ lw_tbl := fun w h => (goodIn_p wsL_law0_r14 [356, 360, 364, 368, 371, 376] rfl (by decide +kernel) w h).1
set_option maxRecDepth 20000 in
theorem wsL_in_r15 : ∀ w ∈ wsL_law0_r15, w ∈ lw_tbl := fun w h => (goodIn_p wsL_law0_r15 [380, 384, 388, 392, 396] rfl (by decide +kernel) w h).1
set_option maxRecDepth 20000 in
theorem wsL_in_r16 : ∀ w ∈ wsL_law0_r16, w ∈ lw_tbl := fun w h => (goodIn_p wsL_law0_r16 [400, 404, 408, 412, 417, 422] rfl (by decide +kernel) w h).1
set_option maxRecDepth 20000 in
theorem wsL_in_r17 : ∀ w ∈ wsL_law0_r17, w ∈ lw_tbl := fun w h => (goodIn_p wsL_law0_r17 [427, 431, 435, 438, 731] rfl (by decide +kernel) w h).1
set_option maxRecDepth 20000 in
theorem wsL_in_r18 : ∀ w ∈ wsL_law0_r18, w ∈ lw_tbl := fun w h => (goodIn_p wsL_law0_r18 [735, 739, 743, 747, 751] rfl (by decide +kernel) w h).1
set_option maxRecDepth 20000 in
theorem wsL_in_r19 : ∀ w ∈ wsL_law0_r19, w ∈ lw_tbl := fun w h => (goodIn_p wsL_law0_r19 [754, 757, 761, 765, 769, 773] rfl (by decide +kernel) w h).1
set_option maxRecDepth 20000 in
theorem wsL_in_r20 : ∀ w ∈ wsL_law0_r20, w ∈ lw_tbl := fun w h => (goodIn_p wsL_law0_r20 [777, 442, 781, 578] rfl (by decide +kernel) w h).1
set_option maxRecDepth 20000 in
theorem wsL_in_r21 : ∀ w ∈ wsL_law0_r21, w ∈ lw_tbl := fun w h => (goodIn_p wsL_law0_r21 [496, 492, 785, 683, 447] rfl (by decide +kernel) w h).1
set_option maxRecDepth 20000 in
theorem wsL_in_r22 : ∀ w ∈ wsL_law0_r22, w ∈ lw_tbl := fun w h => (goodIn_p wsL_law0_r22 [789, 452, 456, 793, 460, 797] rfl (by decide +kernel) w h).1
set_option maxRecDepth 20000 in
theorem wsL_in_r23 : ∀ w ∈ wsL_law0_r23, w ∈ lw_tbl := fun w h => (goodIn_p wsL_law0_r23 [464, 801, 468, 472, 805, 476] rfl (by decide +kernel) w h).1
set_option maxRecDepth 20000 in
theorem wsL_in_r24 : ∀ w ∈ wsL_law0_r24, w ∈ lw_tbl := fun w h => (goodIn_p wsL_law0_r24 [480, 484, 488, 809] rfl (by decide +kernel) w h).1
theorem in_wsX60 : ∀ w ∈ wsX60, w ∈ lw_tbl := fun w h => (goodIn_p wsX60 [] rfl (by decide +kernel) w h).1
theorem in_wsX70 : ∀ w ∈ wsX70, w ∈ lw_tbl := fun w h => (goodIn_p wsX70 [] rfl (by decide +kernel) w h).1
theorem in_wsX00 : ∀ w ∈ wsX00, w ∈ lw_tbl := fun w h => (goodIn_p wsX00 [] rfl (by decide +kernel) w h).1
theorem in_wsX20 : ∀ w ∈ wsX20, w ∈ lw_tbl := fun w h => (goodIn_p wsX20 [] rfl (by decide +kernel) w h).1
theorem in_wsX10 : ∀ w ∈ wsX10, w ∈ lw_tbl := fun w h => (goodIn_p wsX10 [] rfl (by decide +kernel) w h).1
theorem in_wsX30 : ∀ w ∈ wsX30, w ∈ lw_tbl := fun w h => (goodIn_p wsX30 [] rfl (by decide +kernel) w h).1
theorem in_wsX50 : ∀ w ∈ wsX50, w ∈ lw_tbl := fun w h => (goodIn_p wsX50 [] rfl (by decide +kernel) w h).1
theorem in_wsX40 : ∀ w ∈ wsX40, w ∈ lw_tbl := fun w h => (goodIn_p wsX40 [] rfl (by decide +kernel) w h).1
theorem in_wsJx000600 : ∀ w ∈ wsJx000600, w ∈ lw_tbl := fun w h => (goodIn_p wsJx000600 [] rfl (by decide +kernel) w h).1
theorem wsL_law_in0 : ∀ w ∈ wsL_law0, w ∈ lw_tbl := fun w h => by
  unfold wsL_law0 at h
  simp only [List.mem_append, List.not_mem_nil, or_false] at h
  rcases h with (((((((((h | h | h | h | h | h | h | h | h | h | h | h | h | h | h | h | h | h | h | h | h | h | h | h) | h) | h) | h) | h) | h) | h) | h) | h) | h
  · exact wsL_in_r1 w h
  · exact wsL_in_r2 w h
  · exact wsL_in_r3 w h
  · exact wsL_in_r4 w h
  · exact wsL_in_r5 w h
  · exact wsL_in_r6 w h
  · exact wsL_in_r7 w h
  · exact wsL_in_r8 w h
  · exact wsL_in_r9 w h
  · exact wsL_in_r10 w h
  · exact wsL_in_r11 w h
  · exact wsL_in_r12 w h
  · exact wsL_in_r13 w h
  · exact wsL_in_r14 w h
  · exact wsL_in_r15 w h
  · exact wsL_in_r16 w h
  · exact wsL_in_r17 w h
  · exact wsL_in_r18 w h
  · exact wsL_in_r19 w h
  · exact wsL_in_r20 w h
  · exact wsL_in_r21 w h
  · exact wsL_in_r22 w h
  · exact wsL_in_r23 w h
  · exact wsL_in_r24 w h
  · exact in_wsX60 w h
  · exact in_wsX70 w h
  · exact in_wsX00 w h
  · exact in_wsX20 w h
  · exact in_wsX10 w h
  · exact in_wsX30 w h
  · exact in_wsX50 w h
  · exact in_wsX40 w h
  · exact in_wsJx000600 w h
def zOvr (s : State) : Nat → Prop := fun q => s.heap.size ≤ q
def zUC (p : Program) (G : zG) (s : State) (m : MethodId) (meth : Method) (c : Code) (b L sa : Nat) (xs : Nat → Int32) (ac am : Nat → Nat) (oa : Nat) (cL : ClassId) : Prop :=
  (p.tables.exec = Jvm.exec ∧ c.code = code ∧ meth.sig.returnType = ret ∧ c.maxLocals = 7 ∧ s.vm.findClass RL = some m.cls ∧ (∀ w ∈ lw_tbl, w.before #[.ref b] s = true) ∧ va_X b L xs s s.heap ∧ b < s.heap.size ∧ meth.locks = false) ∧
  va_K (zD G) vwCl (zT G ++ [(cL, .long)]) s ∧ (∀ σ f, va_D (zOvr s) (zLw (zGa G ac) cL oa σ f)) ∧ (∀ σ, va_D (zOvr s) (zw (zGa G am) shM σ)) ∧
  (∀ (σ μ : zSt) (f : Nat → Int64) (i j : Nat) (q r : Nat × va_E), (zLw (zGa G ac) cL oa σ f)[i]? = some q → (zw (zGa G am) shM μ)[j]? = some r → q.1 ≠ r.1) ∧ zXs sa (zOvr s) s s.heap ∧ G.1.stackTraces = false
def zU (p : Program) (G : zG) (e : Env) (s : State) (m : MethodId) (below : List Frame) (meth : Method) (c : Code) (b : Nat) (ac am : Nat → Nat) (oa : Nat) (cL : ClassId) (kc ks pc : Nat) (lv : List (Option Value)) (st : List Value) (σ μ : zSt) (f : Nat → Int64) : Prop :=
  ∀ (H : Heap) (locs : List Loc) (ls : Array Slot), zRg σ → zRg μ → va_P (zD G) vwCl (zLw (zGa G ac) cL oa σ f) H → va_P (zD G) vwCl (zw (zGa G am) shM μ) H → va_S (zOvr s) s.heap H locs → lv_has ls 7 (zlv 0 lv) →
    W p G.1 e room_1 s m #[Value.ref b] below meth c H locs kc ks (lw_Z below #[Value.ref b] s) (F0 m pc ls st)
def sv (xs : Nat → Int32) (z : Int) : Int := (xs z.toNat).toInt
theorem sv_R (xs : Nat → Int32) (z : Int) : zR (sv xs z) := zR_toInt _
section zUs
variable {p : Program} {G : zG} {e : Env} {s : State} {m : MethodId} {below : List Frame} {meth : Method} {c : Code} {b L sa : Nat} {xs : Nat → Int32} {ac am : Nat → Nat} {oa : Nat} {cL : ClassId}
variable {kc ks pc : Nat} {lv : List (Option Value)} {st : List Value} {σ μ : zSt} {f : Nat → Int64}
theorem u_rg (h : zRg σ → zRg μ → zU p G e s m below meth c b ac am oa cL kc ks pc lv st σ μ f) : zU p G e s m below meth c b ac am oa cL kc ks pc lv st σ μ f := fun H locs ls hR hRm => h hR hRm H locs ls hR hRm
theorem u_lv {lv' : List (Option Value)} (e9 : lv = lv') (h : zU p G e s m below meth c b ac am oa cL kc ks pc lv' st σ μ f) : zU p G e s m below meth c b ac am oa cL kc ks pc lv st σ μ f := by rw [e9]; exact h
theorem u_top {a b9 : Int} (e9 : a = b9) (h : zU p G e s m below meth c b ac am oa cL kc ks pc lv (.int (zI b9) :: st) σ μ f) : zU p G e s m below meth c b ac am oa cL kc ks pc lv (.int (zI a) :: st) σ μ f := by rw [e9]; exact h
theorem u_norm {x : Int32} (h : zU p G e s m below meth c b ac am oa cL kc ks pc lv (.int (zI x.toInt) :: st) σ μ f) : zU p G e s m below meth c b ac am oa cL kc ks pc lv (.int x :: st) σ μ f := by rw [zI_self] at h; exact h
theorem u_wid {k n : Nat} (h1 : kc ≤ k) (h2 : ks ≤ n) (h : zU p G e s m below meth c b ac am oa cL k n pc lv st σ μ f) : zU p G e s m below meth c b ac am oa cL kc ks pc lv st σ μ f := fun H locs ls hR hRm hP hPm hS hl => W.widen h1 h2 (h H locs ls hR hRm hP hPm hS hl)

theorem u_iconst (C : zUC p G s m meth c b L sa xs ac am oa cL) {n : Int} (a : Int) (hd : decode code pc = .ok (.iconst n, 1)) (hv : Int32.ofInt n = zI a) (kk : zU p G e s m below meth c b ac am oa cL kc ks (pc + 1) lv (.int (zI a) :: st) σ μ f) : zU p G e s m below meth c b ac am oa cL kc ks pc lv st σ μ f := by
  intro H locs ls hR hRm hP hPm hS hl
  exact lv_iconst C.1.1 C.1.2.1 hd hv (kk H locs ls hR hRm hP hPm hS hl)
theorem u_bipush (C : zUC p G s m meth c b L sa xs ac am oa cL) {n : Int} (a : Int) (hd : decode code pc = .ok (.bipush n, 2)) (hv : (Int8.ofInt n).toInt32 = zI a) (kk : zU p G e s m below meth c b ac am oa cL kc ks (pc + 2) lv (.int (zI a) :: st) σ μ f) : zU p G e s m below meth c b ac am oa cL kc ks pc lv st σ μ f := by
  intro H locs ls hR hRm hP hPm hS hl
  exact lv_bipush C.1.1 C.1.2.1 hd hv (kk H locs ls hR hRm hP hPm hS hl)
theorem u_aload (C : zUC p G s m meth c b L sa xs ac am oa cL) {q : Fin 4} {i x : Nat} (hd : decode code pc = .ok (.aload_n q, 1)) (hi : (q : Nat) = i) (h : lv[i]? = some (some (.ref x))) (kk : zU p G e s m below meth c b ac am oa cL kc ks (pc + 1) lv (.ref x :: st) σ μ f) : zU p G e s m below meth c b ac am oa cL kc ks pc lv st σ μ f := by
  intro H locs ls hR hRm hP hPm hS hl
  exact lv_aload_n C.1.1 C.1.2.1 hd hi (zlv_at hl h) (kk H locs ls hR hRm hP hPm hS hl)
theorem u_iload (C : zUC p G s m meth c b L sa xs ac am oa cL) {i : Nat} {x : Int32} (hd : decode code pc = .ok (.iload i, 2)) (h : lv[i]? = some (some (.int x))) (kk : zU p G e s m below meth c b ac am oa cL kc ks (pc + 2) lv (.int x :: st) σ μ f) : zU p G e s m below meth c b ac am oa cL kc ks pc lv st σ μ f := by
  intro H locs ls hR hRm hP hPm hS hl
  exact lv_iload C.1.1 C.1.2.1 hd (zlv_at hl h) (kk H locs ls hR hRm hP hPm hS hl)
theorem u_istore (C : zUC p G s m meth c b L sa xs ac am oa cL) {i : Nat} {x : Int32} (hd : decode code pc = .ok (.istore i, 2)) (hil : i < lv.length) (hin : i < 7) (hp : zpv lv i) (kk : zU p G e s m below meth c b ac am oa cL kc ks (pc + 2) (lv.set i (some (.int x))) st σ μ f) : zU p G e s m below meth c b ac am oa cL kc ks pc lv (.int x :: st) σ μ f := by
  intro H locs ls hR hRm hP hPm hS hl
  exact lv_istore C.1.1 C.1.2.1 hd hl hin rfl (fun ls1 hl1 => kk H locs ls1 hR hRm hP hPm hS (zlv_set hil hp hl1))
theorem u_iinc (C : zUC p G s m meth c b L sa xs ac am oa cL) {i : Nat} {n a : Int} (hd : decode code pc = .ok (.iinc i n, 3)) (h : lv[i]? = some (some (.int (zI a)))) (hin : i < 7) (hp : zpv lv i) (kk : zU p G e s m below meth c b ac am oa cL kc ks (pc + 3) (lv.set i (some (.int (zI (a + n))))) st σ μ f) : zU p G e s m below meth c b ac am oa cL kc ks pc lv st σ μ f := by
  intro H locs ls hR hRm hP hPm hS hl
  obtain ⟨q, hq⟩ := List.getElem?_of_mem ((zlv_mem 0 (i, Value.int (zI a))).mpr ⟨i, h, by omega⟩)
  exact lv_iinc C.1.1 C.1.2.1 hd hl hq (zI_add a n) hin rfl (fun ls1 hl1 => kk H locs ls1 hR hRm hP hPm hS (zlv_set (List.getElem?_eq_some_iff.mp h).1 hp hl1))
theorem u_goto (C : zUC p G s m meth c b L sa xs ac am oa cL) {off : Int} {tgt : Nat} (hd : decode code pc = .ok (.goto off, 3)) (ht : (pc : Int) + off = (tgt : Int)) (kk : zU p G e s m below meth c b ac am oa cL kc ks tgt lv st σ μ f) : zU p G e s m below meth c b ac am oa cL kc ks pc lv st σ μ f := by
  intro H locs ls hR hRm hP hPm hS hl
  exact lv_goto C.1.1 C.1.2.1 hd ht (kk H locs ls hR hRm hP hPm hS hl)
theorem u_iadd (C : zUC p G s m meth c b L sa xs ac am oa cL) {a a' : Int} (hd : decode code pc = .ok (.iadd, 1)) (kk : zU p G e s m below meth c b ac am oa cL kc ks (pc + 1) lv (.int (zI (a + a')) :: st) σ μ f) : zU p G e s m below meth c b ac am oa cL kc ks pc lv (.int (zI a') :: .int (zI a) :: st) σ μ f := by
  intro H locs ls hR hRm hP hPm hS hl
  refine lv_iadd C.1.1 C.1.2.1 hd ?_
  rw [zI_add]
  exact kk H locs ls hR hRm hP hPm hS hl
theorem u_isub (C : zUC p G s m meth c b L sa xs ac am oa cL) {a a' : Int} (hd : decode code pc = .ok (.isub, 1)) (kk : zU p G e s m below meth c b ac am oa cL kc ks (pc + 1) lv (.int (zI (a - a')) :: st) σ μ f) : zU p G e s m below meth c b ac am oa cL kc ks pc lv (.int (zI a') :: .int (zI a) :: st) σ μ f := by
  intro H locs ls hR hRm hP hPm hS hl
  refine lv_isub C.1.1 C.1.2.1 hd ?_
  rw [zI_sub]
  exact kk H locs ls hR hRm hP hPm hS hl
theorem u_iand (C : zUC p G s m meth c b L sa xs ac am oa cL) {x y : Int32} (hd : decode code pc = .ok (.iand, 1)) (kk : zU p G e s m below meth c b ac am oa cL kc ks (pc + 1) lv (.int (x &&& y) :: st) σ μ f) : zU p G e s m below meth c b ac am oa cL kc ks pc lv (.int y :: .int x :: st) σ μ f := by
  intro H locs ls hR hRm hP hPm hS hl
  exact lv_iand C.1.1 C.1.2.1 hd (kk H locs ls hR hRm hP hPm hS hl)
theorem u_i2l (C : zUC p G s m meth c b L sa xs ac am oa cL) {x : Int32} (hd : decode code pc = .ok (.i2l, 1)) (kk : zU p G e s m below meth c b ac am oa cL kc ks (pc + 1) lv (.long x.toInt64 :: st) σ μ f) : zU p G e s m below meth c b ac am oa cL kc ks pc lv (.int x :: st) σ μ f := by
  intro H locs ls hR hRm hP hPm hS hl
  exact lv_i2l C.1.1 C.1.2.1 hd rfl (kk H locs ls hR hRm hP hPm hS hl)
theorem u_lshl (C : zUC p G s m meth c b L sa xs ac am oa cL) {x : Int64} {y : Int32} (hd : decode code pc = .ok (.lshl, 1)) (kk : zU p G e s m below meth c b ac am oa cL kc ks (pc + 1) lv (.long (x <<< (y.toInt64 &&& 63)) :: st) σ μ f) : zU p G e s m below meth c b ac am oa cL kc ks pc lv (.int y :: .long x :: st) σ μ f := by
  intro H locs ls hR hRm hP hPm hS hl
  exact lv_lshl C.1.1 C.1.2.1 hd rfl (kk H locs ls hR hRm hP hPm hS hl)
theorem u_land (C : zUC p G s m meth c b L sa xs ac am oa cL) {x y : Int64} (hd : decode code pc = .ok (.land, 1)) (kk : zU p G e s m below meth c b ac am oa cL kc ks (pc + 1) lv (.long (x &&& y) :: st) σ μ f) : zU p G e s m below meth c b ac am oa cL kc ks pc lv (.long y :: .long x :: st) σ μ f := by
  intro H locs ls hR hRm hP hPm hS hl
  exact lv_land C.1.1 C.1.2.1 hd (kk H locs ls hR hRm hP hPm hS hl)
theorem u_lor (C : zUC p G s m meth c b L sa xs ac am oa cL) {x y : Int64} (hd : decode code pc = .ok (.lor, 1)) (kk : zU p G e s m below meth c b ac am oa cL kc ks (pc + 1) lv (.long (x ||| y) :: st) σ μ f) : zU p G e s m below meth c b ac am oa cL kc ks pc lv (.long y :: .long x :: st) σ μ f := by
  intro H locs ls hR hRm hP hPm hS hl
  exact lv_lor C.1.1 C.1.2.1 hd (kk H locs ls hR hRm hP hPm hS hl)
theorem u_ldc2 (C : zUC p G s m meth c b L sa xs ac am oa cL) {i : Nat} {x : Int64} (hd : decode code pc = .ok (.ldc2_w i, 3)) (hm : Cond.constantLong RL i x ∈ lw_tbl) (kk : zU p G e s m below meth c b ac am oa cL kc ks (pc + 3) lv (.long x :: st) σ μ f) : zU p G e s m below meth c b ac am oa cL kc ks pc lv st σ μ f := by
  intro H locs ls hR hRm hP hPm hS hl
  exact lv_ldc2 C.1.1 C.1.2.1 C.1.2.2.2.2.1 (C.1.2.2.2.2.2.1 _ hm) hd (kk H locs ls hR hRm hP hPm hS hl)
theorem u_laload (C : zUC p G s m meth c b L sa xs ac am oa cL) {g9 : Int} (hd : decode code pc = .ok (.laload, 1)) (hg : g9 = 0) (kk : zU p G e s m below meth c b ac am oa cL kc ks (pc + 1) lv (.long (f 0) :: st) σ μ f) : zU p G e s m below meth c b ac am oa cL kc ks pc lv (.int (zI g9) :: .ref oa :: st) σ μ f := by
  intro H locs ls hR hRm hP hPm hS hl
  subst hg
  refine va_lald (D := zD G) C.1.1 C.1.2.1 C.2.1 hP (zw (zGa G ac) shC σ).length 3 (by rw [zLw, List.getElem?_append_right (Nat.le_refl _), Nat.sub_self]; rfl) rfl (zI_in (by omega) (by omega) (by omega)) hd ?_
  rw [zI_cl (by omega) (by omega)]
  exact kk H locs ls hR hRm hP hPm hS hl
theorem u_lcmp (C : zUC p G s m meth c b L sa xs ac am oa cL) {x y : Int64} (hd : decode code pc = .ok (.lcmp, 1)) (kk : zU p G e s m below meth c b ac am oa cL kc ks (pc + 1) lv (.int (lg_cmp x y) :: st) σ μ f) : zU p G e s m below meth c b ac am oa cL kc ks pc lv (.long y :: .long x :: st) σ μ f := by
  intro H locs ls hR hRm hP hPm hS hl
  exact W.lcmp C.1.1 C.1.2.1 hd (kk H locs ls hR hRm hP hPm hS hl)
theorem u_sld (C : zUC p G s m meth c b L sa xs ac am oa cL) {z : Int} (hd : decode code pc = .ok (.iaload, 1)) (h0 : 0 ≤ z) (h1 : z < L) (hL : L ≤ 320) (kk : zU p G e s m below meth c b ac am oa cL kc ks (pc + 1) lv (.int (zI (sv xs z)) :: st) σ μ f) : zU p G e s m below meth c b ac am oa cL kc ks pc lv (.int (zI z) :: .ref b :: st) σ μ f := by
  intro H locs ls hR hRm hP hPm hS hl
  refine va_sld C.1.1 C.1.2.1 C.1.2.2.2.2.2.2.1 C.1.2.2.2.2.2.2.2.1 (Nat.not_le.mpr C.1.2.2.2.2.2.2.2.1) hS (zI_in h0 h1 (by omega)) hd ?_
  rw [zI_cl h0 (by omega)]
  have e9 : xs z.toNat = zI (sv xs z) := (zI_self _).symm
  rw [e9]
  exact kk H locs ls hR hRm hP hPm hS hl
theorem u_slen (C : zUC p G s m meth c b L sa xs ac am oa cL) (hd : decode code pc = .ok (.arraylength, 1)) (kk : zU p G e s m below meth c b ac am oa cL kc ks (pc + 1) lv (.int (zI (L : Int)) :: st) σ μ f) : zU p G e s m below meth c b ac am oa cL kc ks pc lv (.ref b :: st) σ μ f := by
  intro H locs ls hR hRm hP hPm hS hl
  exact va_slen C.1.1 C.1.2.1 C.1.2.2.2.2.2.2.1 C.1.2.2.2.2.2.2.2.1 (Nat.not_le.mpr C.1.2.2.2.2.2.2.2.1) hS hd (kk H locs ls hR hRm hP hPm hS hl)
theorem u_icmp_gt (C : zUC p G s m meth c b L sa xs ac am oa cL) {a a' : Int} {off : Int} {tgt : Nat} (hd : decode code pc = .ok (.if_icmp .gt off, 3)) (ht : (pc : Int) + off = (tgt : Int)) (ha : zR a) (hb : zR a') (kt : a' < a → zU p G e s m below meth c b ac am oa cL kc ks tgt lv st σ μ f) (kf : a ≤ a' → zU p G e s m below meth c b ac am oa cL kc ks (pc + 3) lv st σ μ f) : zU p G e s m below meth c b ac am oa cL kc ks pc lv (.int (zI a') :: .int (zI a) :: st) σ μ f := by
  intro H locs ls hR hRm hP hPm hS hl
  exact lv_icmp_gt C.1.1 C.1.2.1 hd ht (fun q => kt ((zI_lt hb ha).mp q) H locs ls hR hRm hP hPm hS hl) (fun q => kf (Int.not_lt.mp (fun h => q ((zI_lt hb ha).mpr h))) H locs ls hR hRm hP hPm hS hl)
theorem u_icmp_eq (C : zUC p G s m meth c b L sa xs ac am oa cL) {a a' : Int} {off : Int} {tgt : Nat} (hd : decode code pc = .ok (.if_icmp .eq off, 3)) (ht : (pc : Int) + off = (tgt : Int)) (he : a = a') (kt : zU p G e s m below meth c b ac am oa cL kc ks tgt lv st σ μ f) : zU p G e s m below meth c b ac am oa cL kc ks pc lv (.int (zI a') :: .int (zI a) :: st) σ μ f := by
  intro H locs ls hR hRm hP hPm hS hl
  subst he
  exact lv_icmp_eq C.1.1 C.1.2.1 hd ht (fun q => kt H locs ls hR hRm hP hPm hS hl) (fun q => absurd rfl q)
theorem u_if_eq (C : zUC p G s m meth c b L sa xs ac am oa cL) {a : Int} {off : Int} {tgt : Nat} (hd : decode code pc = .ok (.ifCond .eq off, 3)) (ht : (pc : Int) + off = (tgt : Int)) (ha : zR a) (kt : a = 0 → zU p G e s m below meth c b ac am oa cL kc ks tgt lv st σ μ f) (kf : a ≠ 0 → zU p G e s m below meth c b ac am oa cL kc ks (pc + 3) lv st σ μ f) : zU p G e s m below meth c b ac am oa cL kc ks pc lv (.int (zI a) :: st) σ μ f := by
  intro H locs ls hR hRm hP hPm hS hl
  exact lv_if_eq C.1.1 C.1.2.1 hd ht (fun q => kt ((zI_eq0 ha).mp q) H locs ls hR hRm hP hPm hS hl) (fun q => kf (fun h => q ((zI_eq0 ha).mpr h)) H locs ls hR hRm hP hPm hS hl)
theorem u_if_ne (C : zUC p G s m meth c b L sa xs ac am oa cL) {a : Int} {off : Int} {tgt : Nat} (hd : decode code pc = .ok (.ifCond .ne off, 3)) (ht : (pc : Int) + off = (tgt : Int)) (ha : zR a) (kt : a ≠ 0 → zU p G e s m below meth c b ac am oa cL kc ks tgt lv st σ μ f) (kf : a = 0 → zU p G e s m below meth c b ac am oa cL kc ks (pc + 3) lv st σ μ f) : zU p G e s m below meth c b ac am oa cL kc ks pc lv (.int (zI a) :: st) σ μ f := by
  intro H locs ls hR hRm hP hPm hS hl
  exact lv_if_ne C.1.1 C.1.2.1 hd ht (fun q => kt (fun h => q ((zI_eq0 ha).mpr h)) H locs ls hR hRm hP hPm hS hl) (fun q => kf ((zI_eq0 ha).mp q) H locs ls hR hRm hP hPm hS hl)
theorem u_tabIn (C : zUC p G s m meth c b L sa xs ac am oa cL) {dflt lo hi : Int} {offs : Array Int} {len : Nat} (a : Int) {off : Int} {tgt : Nat} (hd : decode code pc = .ok (.tableswitch dflt lo hi offs, len)) (ha : zR a) (h1 : ¬ a < lo) (h2 : ¬ hi < a) (ho : offs[(a - lo).toNat]? = some off) (ht : (pc : Int) + off = (tgt : Int)) (kk : zU p G e s m below meth c b ac am oa cL kc ks tgt lv st σ μ f) : zU p G e s m below meth c b ac am oa cL kc ks pc lv (.int (zI a) :: st) σ μ f := by
  intro H locs ls hR hRm hP hPm hS hl
  exact lv_tableIn C.1.1 C.1.2.1 hd (by rw [zI_toInt ha]; exact h1) (by rw [zI_toInt ha]; exact h2) (by rw [zI_toInt ha]; exact ho) ht (kk H locs ls hR hRm hP hPm hS hl)
theorem u_tabOut (C : zUC p G s m meth c b L sa xs ac am oa cL) {dflt lo hi : Int} {offs : Array Int} {len : Nat} {a : Int} {tgt : Nat} (hd : decode code pc = .ok (.tableswitch dflt lo hi offs, len)) (ha : zR a) (h : a < lo ∨ hi < a) (ht : (pc : Int) + dflt = (tgt : Int)) (kk : zU p G e s m below meth c b ac am oa cL kc ks tgt lv st σ μ f) : zU p G e s m below meth c b ac am oa cL kc ks pc lv (.int (zI a) :: st) σ μ f := by
  intro H locs ls hR hRm hP hPm hS hl
  exact lv_tableOut C.1.1 C.1.2.1 hd (by rw [zI_toInt ha]; exact h) ht (kk H locs ls hR hRm hP hPm hS hl)
theorem u_done (C : zUC p G s m meth c b L sa xs ac am oa cL) (hd : decode code pc = .ok (.ireturn, 1)) (hc : kc ≤ 600384) (hs : ks ≤ 7286249) : zU p G e s m below meth c b ac am oa cL kc ks pc lv [.int 1] σ μ f := by
  intro H locs ls hR hRm hP hPm hS hl
  refine va_forget (fun q hq => hS.2.2 q hq) ?_
  refine W.widen hc hs ?_
  exact lw_ret C.1.1 C.1.2.1 C.1.2.2.1 C.1.2.2.2.2.2.2.2.2 hd

theorem u_no (C : zUC p G s m meth c b L sa xs ac am oa cL) {H : Heap} (hP : va_P (zD G) vwCl (zLw (zGa G ac) cL oa σ f) H) : ¬ va_A (zw (zGa G ac) shC σ) H.size oa := fun h => by
  rcases h with ⟨j, e9, he⟩ | h
  · have h1 := (List.getElem?_eq_some_iff.mp he).1
    have := (C.2.2.1 σ f).1 j (zw (zGa G ac) shC σ).length (oa, e9) (oa, .inl (cL, 1, .inr (.inl f))) (by rw [zLw, List.getElem?_append_left h1]; exact he) (by rw [zLw, List.getElem?_append_right (Nat.le_refl _), Nat.sub_self]; rfl) rfl
    omega
  · have := ((zLw_P.mp hP).2 0 _ rfl).lt
    exact absurd h (Nat.not_le.mpr this)
theorem u_DC (C : zUC p G s m meth c b L sa xs ac am oa cL) (f : Nat → Int64) : ∀ σ', va_D (zOvr s) (zw (zGa G ac) shC σ') := fun σ' => ⟨fun i j p q h1 h2 he => (C.2.2.1 σ' f).1 i j p q (by rw [zLw, List.getElem?_append_left (List.getElem?_eq_some_iff.mp h1).1]; exact h1) (by rw [zLw, List.getElem?_append_left (List.getElem?_eq_some_iff.mp h2).1]; exact h2) he, fun j q h1 => (C.2.2.1 σ' f).2 j q (by rw [zLw, List.getElem?_append_left (List.getElem?_eq_some_iff.mp h1).1]; exact h1)⟩
theorem u_callC (C : zUC p G s m meth c b L sa xs ac am oa cL) {idx : Nat} (j : zM) (As : List Value) (hd : decode code pc = .ok (.invokevirtual idx, 3)) (hj : zcalV j RX6 As.length) (hml : Cond.methodLink RL idx j.1 ∈ wsL_law0) (hrm : j.2.2.2.2.1 + 1 ≤ room_1.frames ∧ 8 + (j.2.2.1 + 11) + j.2.2.2.2.2.1 ≤ room_1.locals) (hlen : (lg_sl (.ref (ac 0) :: As)).length ≤ j.2.2.1) (hcat : (st.map fun v => v.category).sum ≤ 8) (hkc : kc ≤ 600384) (hks : ks ≤ 7286249)
    (kk : zV (zGa G ac) shC j 0 (zini j.2.2.1 (.ref (ac 0) :: As)) [] σ (fun v σ' => zU p G e s m below meth c b ac am oa cL kc ks (pc + 3) lv (v.toList ++ st) σ' μ f)) : zU p G e s m below meth c b ac am oa cL kc ks pc lv (As.reverse ++ .ref (ac 0) :: st) σ μ f := by
  intro H locs ls hR hRm hP hPm hS hl
  have hno := u_no C hP
  refine g_callV (G := zGa G ac) (i := 0) (nL := 7) (own := RL) (Ts := lw_tbl) (A := zOvr s) j As ⟨C.1.1, C.1.2.1, C.1.2.2.2.1, C.1.2.2.2.2.1, C.1.2.2.2.2.2.1⟩ wsL_law_in0 (C.2.1.sub [0, 1, 2] rfl) (zLw_P.mp hP).1 (u_DC C f) hS (fun q h => h) hR hj hml hrm (fs := [some 1, some 2, some 3, some 4, some 5, some 6, some 7, none, none, none]) (ci := 8) rfl rfl hlen hcat hl.1 hkc hks hd (z_mono kk (fun v σ' h H1 locs1 hR1 hP1 hS1 hz hk => ?_))
  refine h H1 locs1 ls hR1 hRm (zLw_P.mpr ⟨hP1, (zLw_P.mp hP).2.kept (fun i q hq => ?_)⟩) (hPm.kept (fun i q hq => hk q.1 (hPm i q hq).lt (fun h9 => ?_))) hS1 hl
  · cases i with
    | zero => cases hq; exact hk oa ((zLw_P.mp hP).2 0 _ rfl).lt hno
    | succ i => cases hq
  · rcases h9 with ⟨j9, e9, he⟩ | h9
    · exact C.2.2.2.2.1 σ μ f j9 i (q.1, e9) q (by rw [zLw, List.getElem?_append_left (List.getElem?_eq_some_iff.mp he).1]; exact he) hq rfl
    · exact absurd h9 (Nat.not_le.mpr (hPm i q hq).lt)
theorem u_callM (C : zUC p G s m meth c b L sa xs ac am oa cL) {idx : Nat} (j : zM) (As : List Value) (hd : decode code pc = .ok (.invokevirtual idx, 3)) (hj : zcalV j RX7 As.length) (hml : Cond.methodLink RL idx j.1 ∈ wsL_law0) (hrm : j.2.2.2.2.1 + 1 ≤ room_1.frames ∧ 8 + (j.2.2.1 + 11) + j.2.2.2.2.2.1 ≤ room_1.locals) (hlen : (lg_sl (.ref (am 0) :: As)).length ≤ j.2.2.1) (hcat : (st.map fun v => v.category).sum ≤ 8) (hkc : kc ≤ 600384) (hks : ks ≤ 7286249)
    (kk : zV (zGa G am) shM j 0 (zini j.2.2.1 (.ref (am 0) :: As)) [] μ (fun v μ' => zU p G e s m below meth c b ac am oa cL kc ks (pc + 3) lv (v.toList ++ st) σ μ' f)) : zU p G e s m below meth c b ac am oa cL kc ks pc lv (As.reverse ++ .ref (am 0) :: st) σ μ f := by
  intro H locs ls hR hRm hP hPm hS hl
  refine g_callV (G := zGa G am) (i := 0) (nL := 7) (own := RL) (Ts := lw_tbl) (A := zOvr s) j As ⟨C.1.1, C.1.2.1, C.1.2.2.2.1, C.1.2.2.2.2.1, C.1.2.2.2.2.2.1⟩ wsL_law_in0 (C.2.1.sub [0, 1, 2] rfl) hPm C.2.2.2.1 hS (fun q h => h) hRm hj hml hrm (ci := 9) rfl rfl hlen hcat hl.1 hkc hks hd (z_mono kk (fun v μ' h H1 locs1 hR1 hP1 hS1 hz hk => ?_))
  refine h H1 locs1 ls hR hR1 (hP.kept (fun i q hq => hk q.1 (hP i q hq).lt (fun h9 => ?_))) hP1 hS1 hl
  rcases h9 with ⟨j9, e9, he⟩ | h9
  · exact C.2.2.2.2.1 σ μ f i j9 _ _ hq he rfl
  · exact absurd h9 (Nat.not_le.mpr (hP i q hq).lt)
theorem u_tok (C : zUC p G s m meth c b L sa xs ac am oa cL) {i k : Int} {Post : Int → (Nat → Int64) → Prop} (hM : zRg σ → ∀ SZ : Nat, Met (zGa G ac).1 yL_token wsLt rmLt (zpcL (zGa G ac) cL oa σ f SZ sa [.ref (ac 0), .int (zI i), .int (zI k), .ref oa]) (zQL (zGa G ac) cL oa σ Post (va_A (zLw (zGa G ac) cL oa σ f) SZ)) 1 6 (va_A (zLw (zGa G ac) cL oa σ f) SZ)) (hd : decode code pc = .ok (.invokestatic 71, 3)) (hts : ∀ w ∈ zTs, w.before #[.ref b] s = true) (hG : GoodIn zTs (va_wsS RL 71 yL_token wsLt)) (hcat : (st.map fun v => v.category).sum ≤ 8) (hkc : kc + 1 ≤ 600384) (hks : ks + 6 ≤ 7286249)
    (kk : ∀ v f', Post v f' → zU p G e s m below meth c b ac am oa cL (kc + 1) (ks + 6) (pc + 3) lv (.int (zI v) :: st) σ μ f') : zU p G e s m below meth c b ac am oa cL kc ks pc lv (.ref oa :: .int (zI k) :: .int (zI i) :: .ref (ac 0) :: st) σ μ f := by
  intro H locs ls hR hRm hP hPm hS hl
  have hA1 : ∀ q, va_A (zLw (zGa G ac) cL oa σ f) H.size q → zOvr s q := by
    rintro q (⟨i, e9, he⟩ | h)
    · exact (C.2.2.1 σ f).2 i (q, e9) he
    · exact Nat.le_trans hS.1 h
  have hXH : zXs sa (zOvr s) s H := C.2.2.2.2.2.1.kept hS.2.1
  have hrun := vx_runSW (hh := [(0, 10, 13, 13)]) (As := [.ref (ac 0), .int (zI i), .int (zI k), .ref oa]) (rest := st) (own := RL) (H := H) (locs := locs) (cells := kc) (slots := ks) (e := e) (below := below) (meth := meth) (nL := 7) (g := F0 m pc ls (.ref oa :: .int (zI k) :: .int (zI i) :: .ref (ac 0) :: st)) (Ts := zTs) (cc := code) (R := room_1) (bytes := cL_token) (maxL := 5) (ret := some .int) ⟨C.1.1, C.1.2.1, C.1.2.2.2.1, C.1.2.2.2.2.1, hts⟩ (hM hR H.size) (vx_cwSW 4 hts hG rfl rfl rfl ⟨by decide +kernel, by decide +kernel, by decide +kernel⟩ ⟨Nat.le_of_ble_eq_true rfl, Nat.le_of_ble_eq_true rfl⟩)
    ⟨zpcL_blind, fun U hU hW => ⟨rfl, by rw [hU], by rw [hU]; exact hP, va_K.moved hW.alike C.2.1, fun σ' => (C.2.2.1 σ' f).weaken (fun _ _ _ _ => trivial), by rw [hU]; exact (hXH.warm hW).narrow hA1⟩⟩ rfl rfl hl.1 rfl (lv_room hcat) hd ⟨hkc, hks⟩
  intro T hT X
  obtain ⟨v, st₀, t, T', L9, h0, X', hL, e1, e2, ⟨⟨v', f', hv, hp, hP'⟩, hz, hk9⟩, stp⟩ := hrun T hT X
  cases hv
  rw [h0] at hz hk9
  obtain ⟨t2, a1, b1⟩ := kk v' f' hp T'.heap (locs ++ L9) ls hR hRm (by rw [e1]; exact hP') (hPm.kept (fun i q hq => by
      rw [e1]
      refine hk9 q.1 (hPm i q hq).lt (fun h9 => ?_)
      rcases h9 with ⟨j9, e9, he⟩ | h9
      · exact C.2.2.2.2.1 σ μ f j9 i _ _ he hq rfl
      · exact absurd h9 (Nat.not_le.mpr (hPm i q hq).lt)))
    ⟨Nat.le_trans hS.1 (by rw [e1]; exact hz), fun q h1 h2 => by rw [e1, hk9 q (Nat.lt_of_lt_of_le h1 hS.1) (fun z => h2 (hA1 q z))]; exact hS.2.1 q h1 h2, fun q hq => by
      rcases List.mem_append.mp hq with h | h
      · exact hS.2.2 q h
      · exact hA1 _ (hL q h)⟩ hl T' rfl X'
  exact ⟨t2, stp t2 a1, b1⟩

end zUs

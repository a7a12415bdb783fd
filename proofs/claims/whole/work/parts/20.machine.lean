/-! A small machine over whole numbers: zV is the kit's W at an instruction, for a method that makes no cell;
the world is a list of shapes (zSh), what varies are the objects' numbers and the arrays' numbers (zSt). -/
def zI (z : Int) : Int32 := Int32.ofInt z
abbrev zR (z : Int) : Prop := -2147483648 ≤ z ∧ z < 2147483648
theorem zI_add (a b : Int) : zI a + zI b = zI (a + b) := (Int32.ofInt_add a b).symm
theorem zI_sub (a b : Int) : zI a - zI b = zI (a - b) := (Int32.ofInt_sub a b).symm
theorem zI_mul (a b : Int) : zI a * zI b = zI (a * b) := (Int32.ofInt_mul a b).symm
theorem zI_toInt {a : Int} (h : zR a) : (zI a).toInt = a := Int32.toInt_ofInt_of_le (by omega) (by omega)
theorem zI_self (x : Int32) : zI x.toInt = x := Int32.ofInt_toInt x
theorem zR_toInt (x : Int32) : zR x.toInt := ⟨by have := Int32.le_toInt x; omega, by have := Int32.toInt_lt x; omega⟩
theorem zI_lt {a b : Int} (ha : zR a) (hb : zR b) : zI a < zI b ↔ a < b := by rw [Int32.lt_iff_toInt_lt, zI_toInt ha, zI_toInt hb]
theorem zI_le {a b : Int} (ha : zR a) (hb : zR b) : zI a ≤ zI b ↔ a ≤ b := by rw [Int32.le_iff_toInt_le, zI_toInt ha, zI_toInt hb]
theorem zI_eq {a b : Int} (ha : zR a) (hb : zR b) : zI a = zI b ↔ a = b := ⟨fun h => by have := congrArg Int32.toInt h; rwa [zI_toInt ha, zI_toInt hb] at this, fun h => by rw [h]⟩
theorem zI_0 : zI 0 = 0 := rfl
theorem zI_lt0 {a : Int} (ha : zR a) : zI a < 0 ↔ a < 0 := by rw [← zI_0]; exact zI_lt ha (by omega)
theorem zI_le0 {a : Int} (ha : zR a) : zI a ≤ 0 ↔ a ≤ 0 := by rw [← zI_0]; exact zI_le ha (by omega)
theorem zI_ge0 {a : Int} (ha : zR a) : 0 ≤ zI a ↔ 0 ≤ a := by rw [← zI_0]; exact zI_le (by omega) ha
theorem zI_gt0 {a : Int} (ha : zR a) : 0 < zI a ↔ 0 < a := by rw [← zI_0]; exact zI_lt (by omega) ha
theorem zI_eq0 {a : Int} (ha : zR a) : zI a = 0 ↔ a = 0 := by rw [← zI_0]; exact zI_eq ha (by omega)
theorem zI_cl {a : Int} (h0 : 0 ≤ a) (h1 : a < 2147483648) : (zI a).toNatClampNeg = a.toNat := by
  show (zI a).toInt.toNat = a.toNat
  rw [zI_toInt (by omega)]
theorem zI_in {a : Int} {n : Nat} (h0 : 0 ≤ a) (h1 : a < n) (hn : n < 2147483648) : vp_in (zI a) n := by
  rw [vp_in_iff, zI_toInt (by omega)]; exact ⟨h0, h1⟩
abbrev zSt : Type := (Nat → Nat → Int) × (Nat → Int → Int)
abbrev zG : Type := Launch × (Nat → ClassId) × (Nat → Nat → Nat) × ClassId × ClassId × ClassId × (Nat → Nat)
def zad (G : zG) : Nat → Nat := G.2.2.2.2.2.2
def zD (G : zG) : va_G := (G.2.1, G.2.2.1)
def zT (G : zG) : List (ClassId × FieldType) := [(G.2.2.2.1, .int), (G.2.2.2.2.1, .boolean), (G.2.2.2.2.2.1, .object RX1)]
abbrev zSh : Type := (Nat × List (Option Nat)) ⊕ (Nat × Nat) ⊕ List Nat
def zval (G : zG) (σ : zSt) (i j : Nat) : Option Nat → Value
  | some r => Value.ref (zad G r)
  | none => Value.int (zI (σ.1 i j))
def zfs (G : zG) (σ : zSt) (i : Nat) (ks : List (Option Nat)) : List Value := ks.mapIdx fun j k => zval G σ i j k
def zcell (G : zG) (σ : zSt) (i : Nat) : zSh → va_E
  | .inl (ci, ks) => .inr (ci, zfs G σ i ks)
  | .inr (.inl (0, n)) => .inl (G.2.2.2.1, n, .inl fun k => zI (σ.2 i k))
  | .inr (.inl (_ + 1, n)) => .inl (G.2.2.2.2.1, n, .inl fun k => zI (σ.2 i k))
  | .inr (.inr rs) => .inl (G.2.2.2.2.2.1, rs.length, .inr (.inr (.inr (.inr fun k => (rs[k]?).map (zad G)))))
def zw (G : zG) (sh : List zSh) (σ : zSt) : va_W := sh.mapIdx fun i s => (zad G i, zcell G σ i s)
def zsF (σ : zSt) (i j : Nat) (x : Int) : zSt := (fun a b => if a = i ∧ b = j then x else σ.1 a b, σ.2)
def zsA (σ : zSt) (i : Nat) (z x : Int) : zSt := (σ.1, fun a b => if a = i ∧ b = z then x else σ.2 a b)
def zsC (σ : zSt) (i0 : Nat) (sp : Int) (i1 : Nat) (dp n : Int) : zSt := (σ.1, fun a b => if a = i1 ∧ dp ≤ b ∧ b < dp + n then σ.2 i0 (sp + (b - dp)) else σ.2 a b)
def zRg (σ : zSt) : Prop := (∀ i j, zR (σ.1 i j)) ∧ ∀ i z, zR (σ.2 i z)
theorem zRg.F {σ : zSt} (h : zRg σ) {i j : Nat} {x : Int} (hx : zR x) : zRg (zsF σ i j x) := ⟨fun a b => by
  show zR (if a = i ∧ b = j then x else σ.1 a b)
  split
  · exact hx
  · exact h.1 a b, h.2⟩
theorem zRg.A {σ : zSt} (h : zRg σ) {i : Nat} {z x : Int} (hx : zR x) : zRg (zsA σ i z x) := ⟨h.1, fun a b => by
  show zR (if a = i ∧ b = z then x else σ.2 a b)
  split
  · exact hx
  · exact h.2 a b⟩
theorem zRg.C {σ : zSt} (h : zRg σ) {i0 i1 : Nat} {sp dp n : Int} : zRg (zsC σ i0 sp i1 dp n) := ⟨h.1, fun a b => by
  show zR (if a = i1 ∧ dp ≤ b ∧ b < dp + n then σ.2 i0 (sp + (b - dp)) else σ.2 a b)
  split
  · exact h.2 _ _
  · exact h.2 a b⟩
theorem zw_at {G : zG} {sh : List zSh} {σ : zSt} {i : Nat} {s : zSh} (h : sh[i]? = some s) : (zw G sh σ)[i]? = some (zad G i, zcell G σ i s) := by
  rw [zw, List.getElem?_mapIdx, h]; rfl
theorem zw_len (G : zG) (sh : List zSh) (σ : zSt) : (zw G sh σ).length = sh.length := by rw [zw, List.length_mapIdx]
theorem zcell_ne (G : zG) {σ σ' : zSt} {k : Nat} (h1 : σ'.1 k = σ.1 k) (h2 : σ'.2 k = σ.2 k) (s : zSh) : zcell G σ' k s = zcell G σ k s := by
  match s with
  | .inl (ci, ks) =>
    rw [zcell, zcell]
    have e : zfs G σ' k ks = zfs G σ k ks := by rw [zfs, zfs]; congr 1; funext j o; cases o with
    | none => show Value.int (zI (σ'.1 k j)) = Value.int (zI (σ.1 k j)); rw [h1]
    | some r => rfl
    rw [e]
  | .inr (.inl (0, n)) => rw [zcell, zcell, h2]
  | .inr (.inl (_ + 1, n)) => rw [zcell, zcell, h2]
  | .inr (.inr rs) => rw [zcell, zcell]
theorem zw_set {G : zG} {sh : List zSh} {σ σ' : zSt} {i : Nat} {s : zSh} {c : va_E} (h : sh[i]? = some s) (hc : c = zcell G σ' i s) (hn : ∀ k, k ≠ i → σ'.1 k = σ.1 k ∧ σ'.2 k = σ.2 k) : (zw G sh σ).set i (zad G i, c) = zw G sh σ' := by
  subst hc
  refine List.ext_getElem? fun k => ?_
  by_cases hk : k = i
  · subst hk
    rw [List.getElem?_set_self (by rw [zw_len]; exact (List.getElem?_eq_some_iff.mp h).1), zw_at h]
  · rw [List.getElem?_set_ne (Ne.symm hk), zw, zw, List.getElem?_mapIdx, List.getElem?_mapIdx]
    cases sh[k]? with
    | none => rfl
    | some s' => show some (zad G k, zcell G σ k s') = some (zad G k, zcell G σ' k s'); rw [zcell_ne G (hn k hk).1 (hn k hk).2]
theorem zfs_at {G : zG} {σ : zSt} {i j : Nat} {ks : List (Option Nat)} {o : Option Nat} (h : ks[j]? = some o) : (zfs G σ i ks)[j]? = some (zval G σ i j o) := by
  rw [zfs, List.getElem?_mapIdx, h]; rfl
theorem zfs_set {G : zG} {σ : zSt} {i j : Nat} {ks : List (Option Nat)} (x : Int) (h : ks[j]? = some none) : (zfs G σ i ks).set j (.int (zI x)) = zfs G (zsF σ i j x) i ks := by
  refine List.ext_getElem? fun k => ?_
  by_cases hk : k = j
  · subst hk
    rw [List.getElem?_set_self (by rw [zfs, List.length_mapIdx]; exact (List.getElem?_eq_some_iff.mp h).1), zfs_at h]
    show some _ = some (Value.int (zI (if i = i ∧ k = k then x else σ.1 i k)))
    rw [if_pos ⟨rfl, rfl⟩]
  · rw [List.getElem?_set_ne (Ne.symm hk), zfs, zfs, List.getElem?_mapIdx, List.getElem?_mapIdx]
    cases ks[k]? with
    | none => rfl
    | some o =>
      cases o with
      | some r => rfl
      | none =>
        show some (Value.int (zI (σ.1 i k))) = some (Value.int (zI (if i = i ∧ k = j then x else σ.1 i k)))
        rw [if_neg (fun q => hk q.2)]
/-- name, code, locals, type of the answer; frames, locals' room, cells, slots -/
abbrev zM : Type := MethodName × ByteArray × Nat × Option FieldType × Nat × Nat × Nat × Nat
def zws (k : zM) : List Cond := .code k.1 k.2.1 k.2.2.1 k.2.2.2.1 :: wsL_law0
def zrm (k : zM) : Room := { frames := k.2.2.2.2.1, cells := k.2.2.2.2.2.2.1, slots := k.2.2.2.2.2.2.2, locals := k.2.2.2.2.2.1 }
def zlv : Nat → List (Option Value) → List (Nat × Value)
  | _, [] => []
  | i, none :: t => zlv (i + 1) t
  | i, some v :: t => (i, v) :: zlv (i + 1) t
def zQ (G : zG) (sh : List zSh) (Post : Option Value → zSt → Prop) (A : Nat → Prop) : Array Value → State → Outcome → State → Prop := fun _ st oc t =>
  (∃ (v : Option Value) (σ' : zSt), oc = .returned v ∧ zRg σ' ∧ Post v σ' ∧ va_P (zD G) vwCl (zw G sh σ') t.heap) ∧ va_F A st t
def zC (G : zG) (sh : List zSh) (k : zM) (p : Program) (s : State) (m : MethodId) (args : Array Value) (meth : Method) (c : Code) (A : Nat → Prop) : Prop :=
  p.tables.exec = Jvm.exec ∧ c.code = k.2.1 ∧ meth.sig.returnType = k.2.2.2.1 ∧ meth.locks = false ∧ c.maxLocals = k.2.2.1 ∧ (∀ w ∈ zws k, w.before args s = true) ∧ s.vm.findClass k.1.cls = some m.cls ∧ va_K (zD G) vwCl (zT G) s ∧ (∀ σ, va_D A (zw G sh σ)) ∧ (∀ q, s.heap.size ≤ q → A q)
def zV (G : zG) (sh : List zSh) (k : zM) (pc : Nat) (lv : List (Option Value)) (st : List Value) (σ : zSt) (Post : Option Value → zSt → Prop) : Prop :=
  zRg σ → ∀ (p : Program) (e : Env) (s : State) (m : MethodId) (args : Array Value) (below : List Frame) (meth : Method) (c : Code) (H : Heap) (locs : List Loc) (A : Nat → Prop) (ls : Array Slot),
    zC G sh k p s m args meth c A → va_P (zD G) vwCl (zw G sh σ) H → va_S A s.heap H locs → lv_has ls k.2.2.1 (zlv 0 lv) →
    W p G.1 e (zrm k) s m args below meth c H locs k.2.2.2.2.2.2.1 k.2.2.2.2.2.2.2 (MQ below (zQ G sh Post A) args s k.2.2.2.2.2.2.1 k.2.2.2.2.2.2.2 A) (F0 m pc ls st)
theorem zlv_mem {lv : List (Option Value)} : ∀ (n : Nat) (q : Nat × Value), q ∈ zlv n lv ↔ ∃ i, lv[i]? = some (some q.2) ∧ q.1 = n + i := by
  induction lv with
  | nil => intro n q; simp [zlv]
  | cons o t ih =>
    intro n q
    have key : (∃ i, (o :: t)[i]? = some (some q.2) ∧ q.1 = n + i) ↔ (o = some q.2 ∧ q.1 = n) ∨ ∃ i, t[i]? = some (some q.2) ∧ q.1 = n + 1 + i := by
      constructor
      · rintro ⟨i, h1, h2⟩
        cases i with
        | zero => exact Or.inl ⟨by simpa using h1, h2⟩
        | succ i => exact Or.inr ⟨i, by simpa using h1, by omega⟩
      · rintro (⟨h1, h2⟩ | ⟨i, h1, h2⟩)
        · exact ⟨0, by simp [h1], h2⟩
        · exact ⟨i + 1, by simpa using h1, by omega⟩
    rw [key]
    cases o with
    | none => rw [zlv, ih]; simp
    | some v =>
      rw [zlv, List.mem_cons, ih]
      refine or_congr ?_ Iff.rfl
      constructor
      · rintro rfl; exact ⟨rfl, rfl⟩
      · rintro ⟨h1, h2⟩; cases h1; rw [← h2]
theorem zlv_at {ls : Array Slot} {n : Nat} {lv : List (Option Value)} (h : lv_has ls n (zlv 0 lv)) {i : Nat} {v : Value} (hi : lv[i]? = some (some v)) : ls[i]? = some (.val v) :=
  h.2.2 (i, v) ((zlv_mem 0 (i, v)).mpr ⟨i, hi, by omega⟩)
def zc1 : Option Value → Bool
  | some (.long _) => false
  | some (.double _) => false
  | _ => true
theorem zc1_spec {v : Value} (h : zc1 (some v) = true) : v.category = 1 := by cases v <;> first | rfl | cases h
theorem zlv_set {ls : Array Slot} {n : Nat} {lv : List (Option Value)} {i : Nat} {v : Value} (hi : i < lv.length) (hp : ∀ j o, j + 1 = i → lv[j]? = some o → zc1 o = true)
    (h : lv_has ls n ((i, v) :: (zlv 0 lv).filter (fun q => !(q.1 == i) && !(q.1 + 1 == i && q.2.category == 2)))) : lv_has ls n (zlv 0 (lv.set i (some v))) := by
  refine ⟨h.1, h.2.1, fun q hq => ?_⟩
  obtain ⟨j, h1, h2⟩ := (zlv_mem 0 q).mp hq
  have h2 : q.1 = j := by omega
  by_cases hj : j = i
  · subst hj
    rw [List.getElem?_set_self hi] at h1
    have e : q = (j, v) := Prod.ext h2 (Option.some.inj (Option.some.inj h1)).symm
    rw [e]
    exact h.2.2 _ List.mem_cons_self
  · rw [List.getElem?_set_ne (Ne.symm hj)] at h1
    refine h.2.2 q (List.mem_cons_of_mem _ (List.mem_filter.mpr ⟨(zlv_mem 0 q).mpr ⟨j, h1, by omega⟩, ?_⟩))
    have e1 : (q.1 == i) = false := by simp; omega
    have e2 : (q.1 + 1 == i && q.2.category == 2) = false := by
      by_cases hji : j + 1 = i
      · have := zc1_spec (hp j _ hji h1)
        simp [this]
      · simp; intro hh; omega
    rw [e1, e2]; rfl

theorem zleE {a b c : Int} (e : a = b) (h : b ≤ c) : a ≤ c := e ▸ h
theorem zgeE {a b c : Int} (e : a = b) (h : c ≤ b) : c ≤ a := e ▸ h
theorem zltE {a b c : Int} (e : a = b) (h : b < c) : a < c := e ▸ h
theorem zgtE {a b c : Int} (e : a = b) (h : c < b) : c < a := e ▸ h
theorem zeqE {a b c : Int} (e : a = b) (h : b = c) : a = c := e ▸ h
def zsB (σ : zSt) (c : Nat) (b n : Int) (g : Int → Int) : zSt := (σ.1, fun a z => if a = c ∧ b ≤ z ∧ z < b + n then g (z - b) else σ.2 a z)
theorem zsB_0 {σ : zSt} {c : Nat} {b : Int} {g : Int → Int} : zsB σ c b 0 g = σ := Prod.ext rfl (funext fun a => funext fun z => if_neg (by omega))
theorem zsB_ne1 {σ : zSt} {c a : Nat} {b n z : Int} {g : Int → Int} (h : ¬ (a = c ∧ b ≤ z ∧ z < b + n)) : (zsB σ c b n g).2 a z = σ.2 a z := if_neg h
theorem zsB_in {σ : zSt} {c : Nat} {b n z : Int} {g : Int → Int} (h0 : b ≤ z) (h1 : z < b + n) : (zsB σ c b n g).2 c z = g (z - b) := if_pos ⟨rfl, h0, h1⟩
theorem zsB_arr {σ : zSt} {c a : Nat} {b n : Int} {g : Int → Int} (h : a ≠ c) : (zsB σ c b n g).2 a = σ.2 a := by funext z; exact if_neg (fun q => h q.1)
theorem zsB_S {σ : zSt} {c : Nat} {b n x z : Int} {g : Int → Int} (h0 : 0 ≤ n) (hz : z = b + n) (hx : x = g n) : zsA (zsB σ c b n g) c z x = zsB σ c b (n + 1) g := by
  subst hz; subst hx
  refine Prod.ext rfl (funext fun a => funext fun z => ?_)
  show (if a = c ∧ z = b + n then g n else if a = c ∧ b ≤ z ∧ z < b + n then g (z - b) else σ.2 a z) = if a = c ∧ b ≤ z ∧ z < b + (n + 1) then g (z - b) else σ.2 a z
  by_cases h1 : a = c ∧ z = b + n
  · rw [if_pos h1, if_pos ⟨h1.1, by omega, by omega⟩]; congr 1; omega
  · rw [if_neg h1]
    by_cases h2 : a = c ∧ b ≤ z ∧ z < b + n
    · rw [if_pos h2, if_pos ⟨h2.1, h2.2.1, by omega⟩]
    · rw [if_neg h2, if_neg (fun q => h2 ⟨q.1, q.2.1, by have := q.2.2; have : ¬ z = b + n := fun e => h1 ⟨q.1, e⟩; omega⟩)]
theorem zsA_id {σ : zSt} {i : Nat} {z x : Int} (h : σ.2 i z = x) : zsA σ i z x = σ := by
  refine Prod.ext rfl (funext fun a => funext fun b => ?_)
  show (if a = i ∧ b = z then x else σ.2 a b) = σ.2 a b
  by_cases q : a = i ∧ b = z
  · rw [if_pos q, q.1, q.2, h]
  · rw [if_neg q]
theorem zsF_eq {σ : zSt} {i j : Nat} {x : Int} : (zsF σ i j x).1 i j = x := if_pos ⟨rfl, rfl⟩
theorem zsF_ne {σ : zSt} {i j a b : Nat} {x : Int} (h : ¬ (a = i ∧ b = j)) : (zsF σ i j x).1 a b = σ.1 a b := if_neg h
theorem zsA_eq {σ : zSt} {i : Nat} {z x : Int} : (zsA σ i z x).2 i z = x := if_pos ⟨rfl, rfl⟩
theorem zsA_ne1 {σ : zSt} {i a : Nat} {z b x : Int} (h : ¬ (a = i ∧ b = z)) : (zsA σ i z x).2 a b = σ.2 a b := if_neg h
theorem zsC_ne1 {σ : zSt} {i0 i1 a : Nat} {sp dp n b : Int} (h : ¬ (a = i1 ∧ dp ≤ b ∧ b < dp + n)) : (zsC σ i0 sp i1 dp n).2 a b = σ.2 a b := if_neg h
theorem zsA_F {σ : zSt} {i a b : Nat} {z x : Int} : (zsA σ i z x).1 a b = σ.1 a b := rfl
theorem zsC_F {σ : zSt} {i0 i1 a b : Nat} {sp dp n : Int} : (zsC σ i0 sp i1 dp n).1 a b = σ.1 a b := rfl
theorem zsB_F {σ : zSt} {c a b : Nat} {d n : Int} {g : Int → Int} : (zsB σ c d n g).1 a b = σ.1 a b := rfl
theorem zsF_A {σ : zSt} {i j a : Nat} {b x : Int} : (zsF σ i j x).2 a b = σ.2 a b := rfl
theorem zsF_W {σ : zSt} {i j a : Nat} {x : Int} : (zsF σ i j x).2 a = σ.2 a := rfl
theorem zsA_arr {σ : zSt} {i a : Nat} {z x : Int} (h : a ≠ i) : (zsA σ i z x).2 a = σ.2 a := by funext b; show (if a = i ∧ b = z then x else σ.2 a b) = σ.2 a b; rw [if_neg (fun q => h q.1)]
theorem zsC_arr {σ : zSt} {i0 i1 a : Nat} {sp dp n : Int} (h : a ≠ i1) : (zsC σ i0 sp i1 dp n).2 a = σ.2 a := by funext b; show (if a = i1 ∧ dp ≤ b ∧ b < dp + n then σ.2 i0 (sp + (b - dp)) else σ.2 a b) = σ.2 a b; rw [if_neg (fun q => h q.1)]
section zRows
variable {G : zG} {sh : List zSh} {k : zM} {pc : Nat} {lv : List (Option Value)} {st : List Value} {σ : zSt} {Post : Option Value → zSt → Prop}
theorem z_rg (h : zRg σ → zV G sh k pc lv st σ Post) : zV G sh k pc lv st σ Post := fun hR => h hR hR
theorem z_mono {Post' : Option Value → zSt → Prop} (h : zV G sh k pc lv st σ Post) (hp : ∀ v σ', Post v σ' → Post' v σ') : zV G sh k pc lv st σ Post' := by
  intro hR p e s m args below meth c H locs A ls C hP hS hl T hT X
  obtain ⟨t, h1, o, h2, h3, ⟨⟨v, σ', e1, e2, e3, e4⟩, e5⟩, h4⟩ := h hR p e s m args below meth c H locs A ls C hP hS hl T hT X
  exact ⟨t, h1, o, h2, h3, ⟨⟨v, σ', e1, e2, hp v σ' e3, e4⟩, e5⟩, h4⟩
theorem z_lv {lv' : List (Option Value)} (e : lv = lv') (h : zV G sh k pc lv' st σ Post) : zV G sh k pc lv st σ Post := by rw [e]; exact h
theorem z_st {σ' : zSt} (e : σ = σ') (h : zV G sh k pc lv st σ' Post) : zV G sh k pc lv st σ Post := by rw [e]; exact h
theorem z_top {a b : Int} (e : a = b) (h : zV G sh k pc lv (.int (zI b) :: st) σ Post) : zV G sh k pc lv (.int (zI a) :: st) σ Post := by rw [e]; exact h
theorem z_norm {x : Int32} (h : zV G sh k pc lv (.int (zI x.toInt) :: st) σ Post) : zV G sh k pc lv (.int x :: st) σ Post := by rw [zI_self] at h; exact h
theorem z_raw2 {x : Int32} {y : Value} (h : zV G sh k pc lv (.int (zI x.toInt) :: y :: st) σ Post) : zV G sh k pc lv (.int x :: y :: st) σ Post := by rw [zI_self] at h; exact h
theorem zPe {a b : Int} (h : Post (some (.int (zI b))) σ) (e : a = b) : Post (some (.int (zI a))) σ := by rw [e]; exact h
theorem z_b1 {v : Value} (h : zV G sh k pc lv (v :: st) σ Post) : zV G sh k pc lv ((some v).toList ++ st) σ Post := h
theorem z_b0 (h : zV G sh k pc lv st σ Post) : zV G sh k pc lv ((none : Option Value).toList ++ st) σ Post := h

theorem z_iconst {n : Int} (a : Int) (hd : decode k.2.1 pc = .ok (.iconst n, 1)) (hv : Int32.ofInt n = zI a) (kk : zV G sh k (pc + 1) lv (.int (zI a) :: st) σ Post) : zV G sh k pc lv st σ Post := by
  intro hR p e s m args below meth c H locs A ls C hP hS hl
  exact lv_iconst C.1 C.2.1 hd hv (kk hR p e s m args below meth c H locs A ls C hP hS hl)

theorem z_bipush {n : Int} (a : Int) (hd : decode k.2.1 pc = .ok (.bipush n, 2)) (hv : (Int8.ofInt n).toInt32 = zI a) (kk : zV G sh k (pc + 2) lv (.int (zI a) :: st) σ Post) : zV G sh k pc lv st σ Post := by
  intro hR p e s m args below meth c H locs A ls C hP hS hl
  exact lv_bipush C.1 C.2.1 hd hv (kk hR p e s m args below meth c H locs A ls C hP hS hl)

theorem z_sipush {n : Int} (a : Int) (hd : decode k.2.1 pc = .ok (.sipush n, 3)) (hv : (Int16.ofInt n).toInt32 = zI a) (kk : zV G sh k (pc + 3) lv (.int (zI a) :: st) σ Post) : zV G sh k pc lv st σ Post := by
  intro hR p e s m args below meth c H locs A ls C hP hS hl
  exact lv_sipush C.1 C.2.1 hd hv (kk hR p e s m args below meth c H locs A ls C hP hS hl)

theorem z_ldc {i : Nat} (a : Int) (hd : decode k.2.1 pc = .ok (.ldc i, 2)) (hm : Jvm.Cond.constant k.1.cls i (zI a) ∈ wsL_law0) (kk : zV G sh k (pc + 2) lv (.int (zI a) :: st) σ Post) : zV G sh k pc lv st σ Post := by
  intro hR p e s m args below meth c H locs A ls C hP hS hl
  exact lv_ldc C.1 C.2.1 C.2.2.2.2.2.2.1 (C.2.2.2.2.2.1 _ (List.mem_cons_of_mem _ hm)) hd (kk hR p e s m args below meth c H locs A ls C hP hS hl)
theorem z_null (hd : decode k.2.1 pc = .ok (.aconst_null, 1)) (kk : zV G sh k (pc + 1) lv (.null :: st) σ Post) : zV G sh k pc lv st σ Post := by
  intro hR p e s m args below meth c H locs A ls C hP hS hl
  exact lv_null C.1 C.2.1 hd (kk hR p e s m args below meth c H locs A ls C hP hS hl)

theorem z_iadd {a b : Int} (hd : decode k.2.1 pc = .ok (.iadd, 1)) (kk : zV G sh k (pc + 1) lv (.int (zI (a + b)) :: st) σ Post) : zV G sh k pc lv (.int (zI b) :: .int (zI a) :: st) σ Post := by
  intro hR p e s m args below meth c H locs A ls C hP hS hl
  refine lv_iadd C.1 C.2.1 hd ?_
  rw [zI_add]
  exact kk hR p e s m args below meth c H locs A ls C hP hS hl

theorem z_isub {a b : Int} (hd : decode k.2.1 pc = .ok (.isub, 1)) (kk : zV G sh k (pc + 1) lv (.int (zI (a - b)) :: st) σ Post) : zV G sh k pc lv (.int (zI b) :: .int (zI a) :: st) σ Post := by
  intro hR p e s m args below meth c H locs A ls C hP hS hl
  refine lv_isub C.1 C.2.1 hd ?_
  rw [zI_sub]
  exact kk hR p e s m args below meth c H locs A ls C hP hS hl

theorem z_imul {a b : Int} (hd : decode k.2.1 pc = .ok (.imul, 1)) (kk : zV G sh k (pc + 1) lv (.int (zI (a * b)) :: st) σ Post) : zV G sh k pc lv (.int (zI b) :: .int (zI a) :: st) σ Post := by
  intro hR p e s m args below meth c H locs A ls C hP hS hl
  refine lv_imul C.1 C.2.1 hd ?_
  rw [zI_mul]
  exact kk hR p e s m args below meth c H locs A ls C hP hS hl

theorem z_iand {x y : Int32} (hd : decode k.2.1 pc = .ok (.iand, 1)) (kk : zV G sh k (pc + 1) lv (.int (x &&& y) :: st) σ Post) : zV G sh k pc lv (.int y :: .int x :: st) σ Post := by
  intro hR p e s m args below meth c H locs A ls C hP hS hl
  exact lv_iand C.1 C.2.1 hd (kk hR p e s m args below meth c H locs A ls C hP hS hl)
theorem z_land {x y : Int64} (hd : decode k.2.1 pc = .ok (.land, 1)) (kk : zV G sh k (pc + 1) lv (.long (x &&& y) :: st) σ Post) : zV G sh k pc lv (.long y :: .long x :: st) σ Post := by
  intro hR p e s m args below meth c H locs A ls C hP hS hl
  exact lv_land C.1 C.2.1 hd (kk hR p e s m args below meth c H locs A ls C hP hS hl)
theorem z_lushr {x : Int64} {y : Int32} (hd : decode k.2.1 pc = .ok (.lushr, 1)) (kk : zV G sh k (pc + 1) lv (.long (x.toUInt64 >>> (y.toInt64.toUInt64 &&& Int64.toUInt64 63)).toInt64 :: st) σ Post) : zV G sh k pc lv (.int y :: .long x :: st) σ Post := by
  intro hR p e s m args below meth c H locs A ls C hP hS hl
  exact lv_lushr C.1 C.2.1 hd rfl (kk hR p e s m args below meth c H locs A ls C hP hS hl)
theorem z_lshr {x : Int64} {y : Int32} (hd : decode k.2.1 pc = .ok (.lshr, 1)) (kk : zV G sh k (pc + 1) lv (.long (x >>> (y.toInt64 &&& 63)) :: st) σ Post) : zV G sh k pc lv (.int y :: .long x :: st) σ Post := by
  intro hR p e s m args below meth c H locs A ls C hP hS hl
  exact lv_lshr C.1 C.2.1 hd rfl (kk hR p e s m args below meth c H locs A ls C hP hS hl)
theorem z_l2i {x : Int64} (hd : decode k.2.1 pc = .ok (.l2i, 1)) (kk : zV G sh k (pc + 1) lv (.int x.toInt32 :: st) σ Post) : zV G sh k pc lv (.long x :: st) σ Post := by
  intro hR p e s m args below meth c H locs A ls C hP hS hl
  exact lv_l2i C.1 C.2.1 hd rfl (kk hR p e s m args below meth c H locs A ls C hP hS hl)
theorem z_ldc2 {i : Nat} (x : Int64) (hd : decode k.2.1 pc = .ok (.ldc2_w i, 3)) (hm : Jvm.Cond.constantLong k.1.cls i x ∈ wsL_law0) (kk : zV G sh k (pc + 3) lv (.long x :: st) σ Post) : zV G sh k pc lv st σ Post := by
  intro hR p e s m args below meth c H locs A ls C hP hS hl
  exact lv_ldc2 C.1 C.2.1 C.2.2.2.2.2.2.1 (C.2.2.2.2.2.1 _ (List.mem_cons_of_mem _ hm)) hd (kk hR p e s m args below meth c H locs A ls C hP hS hl)
theorem z_dup {v : Value} (hd : decode k.2.1 pc = .ok (.dup, 1)) (hc : zc1 (some v) = true) (kk : zV G sh k (pc + 1) lv (v :: v :: st) σ Post) : zV G sh k pc lv (v :: st) σ Post := by
  intro hR p e s m args below meth c H locs A ls C hP hS hl
  exact lv_dup C.1 C.2.1 hd (zc1_spec hc) (kk hR p e s m args below meth c H locs A ls C hP hS hl)
theorem z_dup2 {v w : Value} (hd : decode k.2.1 pc = .ok (.dup2, 1)) (hc : zc1 (some v) = true) (hc' : zc1 (some w) = true) (kk : zV G sh k (pc + 1) lv (v :: w :: v :: w :: st) σ Post) : zV G sh k pc lv (v :: w :: st) σ Post := by
  intro hR p e s m args below meth c H locs A ls C hP hS hl
  exact lv_dup2_11 C.1 C.2.1 hd (zc1_spec hc) (zc1_spec hc') (kk hR p e s m args below meth c H locs A ls C hP hS hl)
theorem z_goto {off : Int} {tgt : Nat} (hd : decode k.2.1 pc = .ok (.goto off, 3)) (ht : (pc : Int) + off = (tgt : Int)) (kk : zV G sh k tgt lv st σ Post) : zV G sh k pc lv st σ Post := by
  intro hR p e s m args below meth c H locs A ls C hP hS hl
  exact lv_goto C.1 C.2.1 hd ht (kk hR p e s m args below meth c H locs A ls C hP hS hl)
theorem z_ifnull {x : Nat} {off : Int} (hd : decode k.2.1 pc = .ok (.ifnull off, 3)) (kk : zV G sh k (pc + 3) lv st σ Post) : zV G sh k pc lv (.ref x :: st) σ Post := by
  intro hR p e s m args below meth c H locs A ls C hP hS hl
  exact lv_ifnull C.1 C.2.1 hd (kk hR p e s m args below meth c H locs A ls C hP hS hl)
theorem z_ifnullN {off : Int} {tgt : Nat} (hd : decode k.2.1 pc = .ok (.ifnull off, 3)) (ht : (pc : Int) + off = (tgt : Int)) (kk : zV G sh k tgt lv st σ Post) : zV G sh k pc lv (.null :: st) σ Post := by
  intro hR p e s m args below meth c H locs A ls C hP hS hl
  exact lv_ifnullN C.1 C.2.1 hd ht (kk hR p e s m args below meth c H locs A ls C hP hS hl)
theorem z_ifnonnull {x : Nat} {off : Int} {tgt : Nat} (hd : decode k.2.1 pc = .ok (.ifnonnull off, 3)) (ht : (pc : Int) + off = (tgt : Int)) (kk : zV G sh k tgt lv st σ Post) : zV G sh k pc lv (.ref x :: st) σ Post := by
  intro hR p e s m args below meth c H locs A ls C hP hS hl
  exact lv_ifnonnull C.1 C.2.1 hd ht (kk hR p e s m args below meth c H locs A ls C hP hS hl)
theorem z_ifnonnullN {off : Int} (hd : decode k.2.1 pc = .ok (.ifnonnull off, 3)) (kk : zV G sh k (pc + 3) lv st σ Post) : zV G sh k pc lv (.null :: st) σ Post := by
  intro hR p e s m args below meth c H locs A ls C hP hS hl
  exact lv_ifnonnullN C.1 C.2.1 hd (kk hR p e s m args below meth c H locs A ls C hP hS hl)

theorem z_icmp_lt {a b : Int} {off : Int} {tgt : Nat} (hd : decode k.2.1 pc = .ok (.if_icmp .lt off, 3)) (ht : (pc : Int) + off = (tgt : Int)) (ha : zR a) (hb : zR b) (kt : a < b → zV G sh k tgt lv st σ Post) (kf : b ≤ a → zV G sh k (pc + 3) lv st σ Post) : zV G sh k pc lv (.int (zI b) :: .int (zI a) :: st) σ Post := by
  intro hR p e s m args below meth c H locs A ls C hP hS hl
  exact lv_icmp_lt C.1 C.2.1 hd ht (fun q => kt ((zI_lt ha hb).mp q) hR p e s m args below meth c H locs A ls C hP hS hl) (fun q => kf (Int.not_lt.mp (fun h => q ((zI_lt ha hb).mpr h))) hR p e s m args below meth c H locs A ls C hP hS hl)
theorem z_if_lt {a : Int} {off : Int} {tgt : Nat} (hd : decode k.2.1 pc = .ok (.ifCond .lt off, 3)) (ht : (pc : Int) + off = (tgt : Int)) (ha : zR a) (kt : a < 0 → zV G sh k tgt lv st σ Post) (kf : 0 ≤ a → zV G sh k (pc + 3) lv st σ Post) : zV G sh k pc lv (.int (zI a) :: st) σ Post := by
  intro hR p e s m args below meth c H locs A ls C hP hS hl
  exact lv_if_lt C.1 C.2.1 hd ht (fun q => kt ((zI_lt0 ha).mp q) hR p e s m args below meth c H locs A ls C hP hS hl) (fun q => kf (Int.not_lt.mp (fun h => q ((zI_lt0 ha).mpr h))) hR p e s m args below meth c H locs A ls C hP hS hl)

theorem z_icmp_ge {a b : Int} {off : Int} {tgt : Nat} (hd : decode k.2.1 pc = .ok (.if_icmp .ge off, 3)) (ht : (pc : Int) + off = (tgt : Int)) (ha : zR a) (hb : zR b) (kt : b ≤ a → zV G sh k tgt lv st σ Post) (kf : a < b → zV G sh k (pc + 3) lv st σ Post) : zV G sh k pc lv (.int (zI b) :: .int (zI a) :: st) σ Post := by
  intro hR p e s m args below meth c H locs A ls C hP hS hl
  exact lv_icmp_ge C.1 C.2.1 hd ht (fun q => kt ((zI_le hb ha).mp q) hR p e s m args below meth c H locs A ls C hP hS hl) (fun q => kf (Int.not_le.mp (fun h => q ((zI_le hb ha).mpr h))) hR p e s m args below meth c H locs A ls C hP hS hl)
theorem z_if_ge {a : Int} {off : Int} {tgt : Nat} (hd : decode k.2.1 pc = .ok (.ifCond .ge off, 3)) (ht : (pc : Int) + off = (tgt : Int)) (ha : zR a) (kt : 0 ≤ a → zV G sh k tgt lv st σ Post) (kf : a < 0 → zV G sh k (pc + 3) lv st σ Post) : zV G sh k pc lv (.int (zI a) :: st) σ Post := by
  intro hR p e s m args below meth c H locs A ls C hP hS hl
  exact lv_if_ge C.1 C.2.1 hd ht (fun q => kt ((zI_ge0 ha).mp q) hR p e s m args below meth c H locs A ls C hP hS hl) (fun q => kf (Int.not_le.mp (fun h => q ((zI_ge0 ha).mpr h))) hR p e s m args below meth c H locs A ls C hP hS hl)

theorem z_icmp_gt {a b : Int} {off : Int} {tgt : Nat} (hd : decode k.2.1 pc = .ok (.if_icmp .gt off, 3)) (ht : (pc : Int) + off = (tgt : Int)) (ha : zR a) (hb : zR b) (kt : b < a → zV G sh k tgt lv st σ Post) (kf : a ≤ b → zV G sh k (pc + 3) lv st σ Post) : zV G sh k pc lv (.int (zI b) :: .int (zI a) :: st) σ Post := by
  intro hR p e s m args below meth c H locs A ls C hP hS hl
  exact lv_icmp_gt C.1 C.2.1 hd ht (fun q => kt ((zI_lt hb ha).mp q) hR p e s m args below meth c H locs A ls C hP hS hl) (fun q => kf (Int.not_lt.mp (fun h => q ((zI_lt hb ha).mpr h))) hR p e s m args below meth c H locs A ls C hP hS hl)
theorem z_if_gt {a : Int} {off : Int} {tgt : Nat} (hd : decode k.2.1 pc = .ok (.ifCond .gt off, 3)) (ht : (pc : Int) + off = (tgt : Int)) (ha : zR a) (kt : 0 < a → zV G sh k tgt lv st σ Post) (kf : a ≤ 0 → zV G sh k (pc + 3) lv st σ Post) : zV G sh k pc lv (.int (zI a) :: st) σ Post := by
  intro hR p e s m args below meth c H locs A ls C hP hS hl
  exact lv_if_gt C.1 C.2.1 hd ht (fun q => kt ((zI_gt0 ha).mp q) hR p e s m args below meth c H locs A ls C hP hS hl) (fun q => kf (Int.not_lt.mp (fun h => q ((zI_gt0 ha).mpr h))) hR p e s m args below meth c H locs A ls C hP hS hl)

theorem z_icmp_le {a b : Int} {off : Int} {tgt : Nat} (hd : decode k.2.1 pc = .ok (.if_icmp .le off, 3)) (ht : (pc : Int) + off = (tgt : Int)) (ha : zR a) (hb : zR b) (kt : a ≤ b → zV G sh k tgt lv st σ Post) (kf : b < a → zV G sh k (pc + 3) lv st σ Post) : zV G sh k pc lv (.int (zI b) :: .int (zI a) :: st) σ Post := by
  intro hR p e s m args below meth c H locs A ls C hP hS hl
  exact lv_icmp_le C.1 C.2.1 hd ht (fun q => kt ((zI_le ha hb).mp q) hR p e s m args below meth c H locs A ls C hP hS hl) (fun q => kf (Int.not_le.mp (fun h => q ((zI_le ha hb).mpr h))) hR p e s m args below meth c H locs A ls C hP hS hl)
theorem z_if_le {a : Int} {off : Int} {tgt : Nat} (hd : decode k.2.1 pc = .ok (.ifCond .le off, 3)) (ht : (pc : Int) + off = (tgt : Int)) (ha : zR a) (kt : a ≤ 0 → zV G sh k tgt lv st σ Post) (kf : 0 < a → zV G sh k (pc + 3) lv st σ Post) : zV G sh k pc lv (.int (zI a) :: st) σ Post := by
  intro hR p e s m args below meth c H locs A ls C hP hS hl
  exact lv_if_le C.1 C.2.1 hd ht (fun q => kt ((zI_le0 ha).mp q) hR p e s m args below meth c H locs A ls C hP hS hl) (fun q => kf (Int.not_le.mp (fun h => q ((zI_le0 ha).mpr h))) hR p e s m args below meth c H locs A ls C hP hS hl)

theorem z_icmp_eq {a b : Int} {off : Int} {tgt : Nat} (hd : decode k.2.1 pc = .ok (.if_icmp .eq off, 3)) (ht : (pc : Int) + off = (tgt : Int)) (ha : zR a) (hb : zR b) (kt : a = b → zV G sh k tgt lv st σ Post) (kf : a ≠ b → zV G sh k (pc + 3) lv st σ Post) : zV G sh k pc lv (.int (zI b) :: .int (zI a) :: st) σ Post := by
  intro hR p e s m args below meth c H locs A ls C hP hS hl
  exact lv_icmp_eq C.1 C.2.1 hd ht (fun q => kt ((zI_eq ha hb).mp q) hR p e s m args below meth c H locs A ls C hP hS hl) (fun q => kf (fun h => q ((zI_eq ha hb).mpr h)) hR p e s m args below meth c H locs A ls C hP hS hl)
theorem z_if_eq {a : Int} {off : Int} {tgt : Nat} (hd : decode k.2.1 pc = .ok (.ifCond .eq off, 3)) (ht : (pc : Int) + off = (tgt : Int)) (ha : zR a) (kt : a = 0 → zV G sh k tgt lv st σ Post) (kf : a ≠ 0 → zV G sh k (pc + 3) lv st σ Post) : zV G sh k pc lv (.int (zI a) :: st) σ Post := by
  intro hR p e s m args below meth c H locs A ls C hP hS hl
  exact lv_if_eq C.1 C.2.1 hd ht (fun q => kt ((zI_eq0 ha).mp q) hR p e s m args below meth c H locs A ls C hP hS hl) (fun q => kf (fun h => q ((zI_eq0 ha).mpr h)) hR p e s m args below meth c H locs A ls C hP hS hl)

theorem z_icmp_ne {a b : Int} {off : Int} {tgt : Nat} (hd : decode k.2.1 pc = .ok (.if_icmp .ne off, 3)) (ht : (pc : Int) + off = (tgt : Int)) (ha : zR a) (hb : zR b) (kt : a ≠ b → zV G sh k tgt lv st σ Post) (kf : a = b → zV G sh k (pc + 3) lv st σ Post) : zV G sh k pc lv (.int (zI b) :: .int (zI a) :: st) σ Post := by
  intro hR p e s m args below meth c H locs A ls C hP hS hl
  exact lv_icmp_ne C.1 C.2.1 hd ht (fun q => kt (fun h => q ((zI_eq ha hb).mpr h)) hR p e s m args below meth c H locs A ls C hP hS hl) (fun q => kf ((zI_eq ha hb).mp q) hR p e s m args below meth c H locs A ls C hP hS hl)
theorem z_if_ne {a : Int} {off : Int} {tgt : Nat} (hd : decode k.2.1 pc = .ok (.ifCond .ne off, 3)) (ht : (pc : Int) + off = (tgt : Int)) (ha : zR a) (kt : a ≠ 0 → zV G sh k tgt lv st σ Post) (kf : a = 0 → zV G sh k (pc + 3) lv st σ Post) : zV G sh k pc lv (.int (zI a) :: st) σ Post := by
  intro hR p e s m args below meth c H locs A ls C hP hS hl
  exact lv_if_ne C.1 C.2.1 hd ht (fun q => kt (fun h => q ((zI_eq0 ha).mpr h)) hR p e s m args below meth c H locs A ls C hP hS hl) (fun q => kf ((zI_eq0 ha).mp q) hR p e s m args below meth c H locs A ls C hP hS hl)

theorem z_tabIn {dflt lo hi : Int} {offs : Array Int} {len : Nat} (a : Int) {off : Int} {tgt : Nat} (hd : decode k.2.1 pc = .ok (.tableswitch dflt lo hi offs, len)) (ha : zR a) (h1 : ¬ a < lo) (h2 : ¬ hi < a) (ho : offs[(a - lo).toNat]? = some off) (ht : (pc : Int) + off = (tgt : Int)) (kk : zV G sh k tgt lv st σ Post) : zV G sh k pc lv (.int (zI a) :: st) σ Post := by
  intro hR p e s m args below meth c H locs A ls C hP hS hl
  exact lv_tableIn C.1 C.2.1 hd (by rw [zI_toInt ha]; exact h1) (by rw [zI_toInt ha]; exact h2) (by rw [zI_toInt ha]; exact ho) ht (kk hR p e s m args below meth c H locs A ls C hP hS hl)
theorem z_tabOut {dflt lo hi : Int} {offs : Array Int} {len : Nat} {a : Int} {tgt : Nat} (hd : decode k.2.1 pc = .ok (.tableswitch dflt lo hi offs, len)) (ha : zR a) (h : a < lo ∨ hi < a) (ht : (pc : Int) + dflt = (tgt : Int)) (kk : zV G sh k tgt lv st σ Post) : zV G sh k pc lv (.int (zI a) :: st) σ Post := by
  intro hR p e s m args below meth c H locs A ls C hP hS hl
  exact lv_tableOut C.1 C.2.1 hd (by rw [zI_toInt ha]; exact h) ht (kk hR p e s m args below meth c H locs A ls C hP hS hl)

theorem z_iloadN {q : Fin 4} {i : Nat} {x : Int32} (hd : decode k.2.1 pc = .ok (.iload_n q, 1)) (hi : (q : Nat) = i) (h : lv[i]? = some (some (.int x))) (kk : zV G sh k (pc + 1) lv (.int x :: st) σ Post) : zV G sh k pc lv st σ Post := by
  intro hR p e s m args below meth c H locs A ls C hP hS hl
  exact lv_iload_n C.1 C.2.1 hd hi (zlv_at hl h) (kk hR p e s m args below meth c H locs A ls C hP hS hl)
theorem z_iloadW {i : Nat} {x : Int32} (hd : decode k.2.1 pc = .ok (.iload i, 2)) (h : lv[i]? = some (some (.int x))) (kk : zV G sh k (pc + 2) lv (.int x :: st) σ Post) : zV G sh k pc lv st σ Post := by
  intro hR p e s m args below meth c H locs A ls C hP hS hl
  exact lv_iload C.1 C.2.1 hd (zlv_at hl h) (kk hR p e s m args below meth c H locs A ls C hP hS hl)
theorem z_aloadN {q : Fin 4} {i : Nat} {x : Nat} (hd : decode k.2.1 pc = .ok (.aload_n q, 1)) (hi : (q : Nat) = i) (h : lv[i]? = some (some (.ref x))) (kk : zV G sh k (pc + 1) lv (.ref x :: st) σ Post) : zV G sh k pc lv st σ Post := by
  intro hR p e s m args below meth c H locs A ls C hP hS hl
  exact lv_aload_n C.1 C.2.1 hd hi (zlv_at hl h) (kk hR p e s m args below meth c H locs A ls C hP hS hl)
theorem z_aloadW {i : Nat} {x : Nat} (hd : decode k.2.1 pc = .ok (.aload i, 2)) (h : lv[i]? = some (some (.ref x))) (kk : zV G sh k (pc + 2) lv (.ref x :: st) σ Post) : zV G sh k pc lv st σ Post := by
  intro hR p e s m args below meth c H locs A ls C hP hS hl
  exact lv_aload C.1 C.2.1 hd (zlv_at hl h) (kk hR p e s m args below meth c H locs A ls C hP hS hl)
theorem z_aloadNN {q : Fin 4} {i : Nat} (hd : decode k.2.1 pc = .ok (.aload_n q, 1)) (hi : (q : Nat) = i) (h : lv[i]? = some (some .null)) (kk : zV G sh k (pc + 1) lv (.null :: st) σ Post) : zV G sh k pc lv st σ Post := by
  intro hR p e s m args below meth c H locs A ls C hP hS hl
  exact lv_aload_nN C.1 C.2.1 hd hi (zlv_at hl h) (kk hR p e s m args below meth c H locs A ls C hP hS hl)
theorem z_lloadN {q : Fin 4} {i : Nat} {x : Int64} (hd : decode k.2.1 pc = .ok (.lload_n q, 1)) (hi : (q : Nat) = i) (h : lv[i]? = some (some (.long x))) (kk : zV G sh k (pc + 1) lv (.long x :: st) σ Post) : zV G sh k pc lv st σ Post := by
  intro hR p e s m args below meth c H locs A ls C hP hS hl
  exact lv_lload_n C.1 C.2.1 hd hi (zlv_at hl h) (kk hR p e s m args below meth c H locs A ls C hP hS hl)
def zpv (lv : List (Option Value)) (i : Nat) : Prop := ∀ j o, j + 1 = i → lv[j]? = some o → zc1 o = true
theorem z_istoreN {q : Fin 4} {i : Nat} {x : Int32} (hd : decode k.2.1 pc = .ok (.istore_n q, 1)) (hi : (q : Nat) = i) (hil : i < lv.length) (hin : i < k.2.2.1) (hp : zpv lv i) (kk : zV G sh k (pc + 1) (lv.set i (some (.int x))) st σ Post) : zV G sh k pc lv (.int x :: st) σ Post := by
  intro hR p e s m args below meth c H locs A ls C hP hS hl
  exact lv_istore_n C.1 C.2.1 hd hi hl hin rfl (fun ls' hl' => kk hR p e s m args below meth c H locs A ls' C hP hS (zlv_set hil hp hl'))
theorem z_istoreW {i : Nat} {x : Int32} (hd : decode k.2.1 pc = .ok (.istore i, 2)) (hil : i < lv.length) (hin : i < k.2.2.1) (hp : zpv lv i) (kk : zV G sh k (pc + 2) (lv.set i (some (.int x))) st σ Post) : zV G sh k pc lv (.int x :: st) σ Post := by
  intro hR p e s m args below meth c H locs A ls C hP hS hl
  exact lv_istore C.1 C.2.1 hd hl hin rfl (fun ls' hl' => kk hR p e s m args below meth c H locs A ls' C hP hS (zlv_set hil hp hl'))
theorem z_astoreN {q : Fin 4} {i : Nat} {x : Nat} (hd : decode k.2.1 pc = .ok (.astore_n q, 1)) (hi : (q : Nat) = i) (hil : i < lv.length) (hin : i < k.2.2.1) (hp : zpv lv i) (kk : zV G sh k (pc + 1) (lv.set i (some (.ref x))) st σ Post) : zV G sh k pc lv (.ref x :: st) σ Post := by
  intro hR p e s m args below meth c H locs A ls C hP hS hl
  exact lv_astore_n C.1 C.2.1 hd hi hl hin rfl (fun ls' hl' => kk hR p e s m args below meth c H locs A ls' C hP hS (zlv_set hil hp hl'))
theorem z_astoreNN {q : Fin 4} {i : Nat} (hd : decode k.2.1 pc = .ok (.astore_n q, 1)) (hi : (q : Nat) = i) (hil : i < lv.length) (hin : i < k.2.2.1) (hp : zpv lv i) (kk : zV G sh k (pc + 1) (lv.set i (some .null)) st σ Post) : zV G sh k pc lv (.null :: st) σ Post := by
  intro hR p e s m args below meth c H locs A ls C hP hS hl
  exact lv_astore_nN C.1 C.2.1 hd hi hl hin rfl (fun ls' hl' => kk hR p e s m args below meth c H locs A ls' C hP hS (zlv_set hil hp hl'))
theorem z_iincN {i : Nat} {n a : Int} (hd : decode k.2.1 pc = .ok (.iinc i n, 3)) (h : lv[i]? = some (some (.int (zI a)))) (hin : i < k.2.2.1) (hp : zpv lv i) (kk : zV G sh k (pc + 3) (lv.set i (some (.int (zI (a + n))))) st σ Post) : zV G sh k pc lv st σ Post := by
  intro hR p e s m args below meth c H locs A ls C hP hS hl
  obtain ⟨q, hq⟩ := List.getElem?_of_mem ((zlv_mem 0 (i, Value.int (zI a))).mpr ⟨i, h, by omega⟩)
  exact lv_iinc C.1 C.2.1 hd hl hq (zI_add a n) hin rfl (fun ls' hl' => kk hR p e s m args below meth c H locs A ls' C hP hS (zlv_set (List.getElem?_eq_some_iff.mp h).1 hp hl'))
theorem z_iincW {i : Nat} {n a : Int} (hd : decode k.2.1 pc = .ok (.iinc i n, 6)) (h : lv[i]? = some (some (.int (zI a)))) (hin : i < k.2.2.1) (hp : zpv lv i) (kk : zV G sh k (pc + 6) (lv.set i (some (.int (zI (a + n))))) st σ Post) : zV G sh k pc lv st σ Post := by
  intro hR p e s m args below meth c H locs A ls C hP hS hl
  obtain ⟨q, hq⟩ := List.getElem?_of_mem ((zlv_mem 0 (i, Value.int (zI a))).mpr ⟨i, h, by omega⟩)
  exact lv_iincW C.1 C.2.1 hd hl hq (zI_add a n) hin rfl (fun ls' hl' => kk hR p e s m args below meth c H locs A ls' C hP hS (zlv_set (List.getElem?_eq_some_iff.mp h).1 hp hl'))
theorem zpv0 : zpv lv 0 := fun _ _ h => by omega
theorem zpvS {i : Nat} {o : Option Value} (h : lv[i]? = some o) (hc : zc1 o = true) : zpv lv (i + 1) := fun j o' hj ho => by
  have : j = i := by omega
  subst this
  rw [h] at ho; cases ho; exact hc

theorem z_iload_0 {x : Int32} {tl : List (Option Value)} (hd : decode k.2.1 pc = .ok (.iload_n 0, 1)) (kk : zV G sh k (pc + 1) (some (.int x) :: tl) (.int x :: st) σ Post) : zV G sh k pc (some (.int x) :: tl) st σ Post := z_iloadN hd rfl rfl kk

theorem z_aload_0 {x : Nat} {tl : List (Option Value)} (hd : decode k.2.1 pc = .ok (.aload_n 0, 1)) (kk : zV G sh k (pc + 1) (some (.ref x) :: tl) (.ref x :: st) σ Post) : zV G sh k pc (some (.ref x) :: tl) st σ Post := z_aloadN hd rfl rfl kk

theorem z_istore_0 {o : Option Value} {x : Int32} {tl : List (Option Value)} (hd : decode k.2.1 pc = .ok (.istore_n 0, 1)) (hin : 0 < k.2.2.1) (kk : zV G sh k (pc + 1) (some (.int x) :: tl) st σ Post) : zV G sh k pc (o :: tl) (.int x :: st) σ Post := z_istoreN (i := 0) hd rfl (by simp) hin zpv0 kk

theorem z_astore_0 {o : Option Value} {x : Nat} {tl : List (Option Value)} (hd : decode k.2.1 pc = .ok (.astore_n 0, 1)) (hin : 0 < k.2.2.1) (kk : zV G sh k (pc + 1) (some (.ref x) :: tl) st σ Post) : zV G sh k pc (o :: tl) (.ref x :: st) σ Post := z_astoreN (i := 0) hd rfl (by simp) hin zpv0 kk

theorem z_iinc_0 {n a : Int} {tl : List (Option Value)} (hd : decode k.2.1 pc = .ok (.iinc 0 n, 3)) (hin : 0 < k.2.2.1) (kk : zV G sh k (pc + 3) (some (.int (zI (a + n))) :: tl) st σ Post) : zV G sh k pc (some (.int (zI a)) :: tl) st σ Post := z_iincN hd rfl hin zpv0 kk

theorem z_iincw_0 {n a : Int} {tl : List (Option Value)} (hd : decode k.2.1 pc = .ok (.iinc 0 n, 6)) (hin : 0 < k.2.2.1) (kk : zV G sh k (pc + 6) (some (.int (zI (a + n))) :: tl) st σ Post) : zV G sh k pc (some (.int (zI a)) :: tl) st σ Post := z_iincW hd rfl hin zpv0 kk

theorem z_iload_1 {a0 : Option Value} {x : Int32} {tl : List (Option Value)} (hd : decode k.2.1 pc = .ok (.iload_n 1, 1)) (kk : zV G sh k (pc + 1) (a0 :: some (.int x) :: tl) (.int x :: st) σ Post) : zV G sh k pc (a0 :: some (.int x) :: tl) st σ Post := z_iloadN hd rfl rfl kk

theorem z_aload_1 {a0 : Option Value} {x : Nat} {tl : List (Option Value)} (hd : decode k.2.1 pc = .ok (.aload_n 1, 1)) (kk : zV G sh k (pc + 1) (a0 :: some (.ref x) :: tl) (.ref x :: st) σ Post) : zV G sh k pc (a0 :: some (.ref x) :: tl) st σ Post := z_aloadN hd rfl rfl kk

theorem z_istore_1 {a0 : Option Value} {o : Option Value} {x : Int32} {tl : List (Option Value)} (hd : decode k.2.1 pc = .ok (.istore_n 1, 1)) (hin : 1 < k.2.2.1) (hp : zc1 a0 = true) (kk : zV G sh k (pc + 1) (a0 :: some (.int x) :: tl) st σ Post) : zV G sh k pc (a0 :: o :: tl) (.int x :: st) σ Post := z_istoreN (i := 1) hd rfl (by simp) hin (zpvS (o := a0) rfl hp) kk

theorem z_astore_1 {a0 : Option Value} {o : Option Value} {x : Nat} {tl : List (Option Value)} (hd : decode k.2.1 pc = .ok (.astore_n 1, 1)) (hin : 1 < k.2.2.1) (hp : zc1 a0 = true) (kk : zV G sh k (pc + 1) (a0 :: some (.ref x) :: tl) st σ Post) : zV G sh k pc (a0 :: o :: tl) (.ref x :: st) σ Post := z_astoreN (i := 1) hd rfl (by simp) hin (zpvS (o := a0) rfl hp) kk

theorem z_iinc_1 {a0 : Option Value} {n a : Int} {tl : List (Option Value)} (hd : decode k.2.1 pc = .ok (.iinc 1 n, 3)) (hin : 1 < k.2.2.1) (hp : zc1 a0 = true) (kk : zV G sh k (pc + 3) (a0 :: some (.int (zI (a + n))) :: tl) st σ Post) : zV G sh k pc (a0 :: some (.int (zI a)) :: tl) st σ Post := z_iincN hd rfl hin (zpvS (o := a0) rfl hp) kk

theorem z_iincw_1 {a0 : Option Value} {n a : Int} {tl : List (Option Value)} (hd : decode k.2.1 pc = .ok (.iinc 1 n, 6)) (hin : 1 < k.2.2.1) (hp : zc1 a0 = true) (kk : zV G sh k (pc + 6) (a0 :: some (.int (zI (a + n))) :: tl) st σ Post) : zV G sh k pc (a0 :: some (.int (zI a)) :: tl) st σ Post := z_iincW hd rfl hin (zpvS (o := a0) rfl hp) kk

theorem z_iload_2 {a0 a1 : Option Value} {x : Int32} {tl : List (Option Value)} (hd : decode k.2.1 pc = .ok (.iload_n 2, 1)) (kk : zV G sh k (pc + 1) (a0 :: a1 :: some (.int x) :: tl) (.int x :: st) σ Post) : zV G sh k pc (a0 :: a1 :: some (.int x) :: tl) st σ Post := z_iloadN hd rfl rfl kk

theorem z_aload_2 {a0 a1 : Option Value} {x : Nat} {tl : List (Option Value)} (hd : decode k.2.1 pc = .ok (.aload_n 2, 1)) (kk : zV G sh k (pc + 1) (a0 :: a1 :: some (.ref x) :: tl) (.ref x :: st) σ Post) : zV G sh k pc (a0 :: a1 :: some (.ref x) :: tl) st σ Post := z_aloadN hd rfl rfl kk

theorem z_istore_2 {a0 a1 : Option Value} {o : Option Value} {x : Int32} {tl : List (Option Value)} (hd : decode k.2.1 pc = .ok (.istore_n 2, 1)) (hin : 2 < k.2.2.1) (hp : zc1 a1 = true) (kk : zV G sh k (pc + 1) (a0 :: a1 :: some (.int x) :: tl) st σ Post) : zV G sh k pc (a0 :: a1 :: o :: tl) (.int x :: st) σ Post := z_istoreN (i := 2) hd rfl (by simp) hin (zpvS (o := a1) rfl hp) kk

theorem z_astore_2 {a0 a1 : Option Value} {o : Option Value} {x : Nat} {tl : List (Option Value)} (hd : decode k.2.1 pc = .ok (.astore_n 2, 1)) (hin : 2 < k.2.2.1) (hp : zc1 a1 = true) (kk : zV G sh k (pc + 1) (a0 :: a1 :: some (.ref x) :: tl) st σ Post) : zV G sh k pc (a0 :: a1 :: o :: tl) (.ref x :: st) σ Post := z_astoreN (i := 2) hd rfl (by simp) hin (zpvS (o := a1) rfl hp) kk

theorem z_iinc_2 {a0 a1 : Option Value} {n a : Int} {tl : List (Option Value)} (hd : decode k.2.1 pc = .ok (.iinc 2 n, 3)) (hin : 2 < k.2.2.1) (hp : zc1 a1 = true) (kk : zV G sh k (pc + 3) (a0 :: a1 :: some (.int (zI (a + n))) :: tl) st σ Post) : zV G sh k pc (a0 :: a1 :: some (.int (zI a)) :: tl) st σ Post := z_iincN hd rfl hin (zpvS (o := a1) rfl hp) kk

theorem z_iincw_2 {a0 a1 : Option Value} {n a : Int} {tl : List (Option Value)} (hd : decode k.2.1 pc = .ok (.iinc 2 n, 6)) (hin : 2 < k.2.2.1) (hp : zc1 a1 = true) (kk : zV G sh k (pc + 6) (a0 :: a1 :: some (.int (zI (a + n))) :: tl) st σ Post) : zV G sh k pc (a0 :: a1 :: some (.int (zI a)) :: tl) st σ Post := z_iincW hd rfl hin (zpvS (o := a1) rfl hp) kk

theorem z_iload_3 {a0 a1 a2 : Option Value} {x : Int32} {tl : List (Option Value)} (hd : decode k.2.1 pc = .ok (.iload_n 3, 1)) (kk : zV G sh k (pc + 1) (a0 :: a1 :: a2 :: some (.int x) :: tl) (.int x :: st) σ Post) : zV G sh k pc (a0 :: a1 :: a2 :: some (.int x) :: tl) st σ Post := z_iloadN hd rfl rfl kk

theorem z_aload_3 {a0 a1 a2 : Option Value} {x : Nat} {tl : List (Option Value)} (hd : decode k.2.1 pc = .ok (.aload_n 3, 1)) (kk : zV G sh k (pc + 1) (a0 :: a1 :: a2 :: some (.ref x) :: tl) (.ref x :: st) σ Post) : zV G sh k pc (a0 :: a1 :: a2 :: some (.ref x) :: tl) st σ Post := z_aloadN hd rfl rfl kk

theorem z_istore_3 {a0 a1 a2 : Option Value} {o : Option Value} {x : Int32} {tl : List (Option Value)} (hd : decode k.2.1 pc = .ok (.istore_n 3, 1)) (hin : 3 < k.2.2.1) (hp : zc1 a2 = true) (kk : zV G sh k (pc + 1) (a0 :: a1 :: a2 :: some (.int x) :: tl) st σ Post) : zV G sh k pc (a0 :: a1 :: a2 :: o :: tl) (.int x :: st) σ Post := z_istoreN (i := 3) hd rfl (by simp) hin (zpvS (o := a2) rfl hp) kk

theorem z_astore_3 {a0 a1 a2 : Option Value} {o : Option Value} {x : Nat} {tl : List (Option Value)} (hd : decode k.2.1 pc = .ok (.astore_n 3, 1)) (hin : 3 < k.2.2.1) (hp : zc1 a2 = true) (kk : zV G sh k (pc + 1) (a0 :: a1 :: a2 :: some (.ref x) :: tl) st σ Post) : zV G sh k pc (a0 :: a1 :: a2 :: o :: tl) (.ref x :: st) σ Post := z_astoreN (i := 3) hd rfl (by simp) hin (zpvS (o := a2) rfl hp) kk

theorem z_iinc_3 {a0 a1 a2 : Option Value} {n a : Int} {tl : List (Option Value)} (hd : decode k.2.1 pc = .ok (.iinc 3 n, 3)) (hin : 3 < k.2.2.1) (hp : zc1 a2 = true) (kk : zV G sh k (pc + 3) (a0 :: a1 :: a2 :: some (.int (zI (a + n))) :: tl) st σ Post) : zV G sh k pc (a0 :: a1 :: a2 :: some (.int (zI a)) :: tl) st σ Post := z_iincN hd rfl hin (zpvS (o := a2) rfl hp) kk

theorem z_iincw_3 {a0 a1 a2 : Option Value} {n a : Int} {tl : List (Option Value)} (hd : decode k.2.1 pc = .ok (.iinc 3 n, 6)) (hin : 3 < k.2.2.1) (hp : zc1 a2 = true) (kk : zV G sh k (pc + 6) (a0 :: a1 :: a2 :: some (.int (zI (a + n))) :: tl) st σ Post) : zV G sh k pc (a0 :: a1 :: a2 :: some (.int (zI a)) :: tl) st σ Post := z_iincW hd rfl hin (zpvS (o := a2) rfl hp) kk

theorem z_iload_4 {a0 a1 a2 a3 : Option Value} {x : Int32} {tl : List (Option Value)} (hd : decode k.2.1 pc = .ok (.iload 4, 2)) (kk : zV G sh k (pc + 2) (a0 :: a1 :: a2 :: a3 :: some (.int x) :: tl) (.int x :: st) σ Post) : zV G sh k pc (a0 :: a1 :: a2 :: a3 :: some (.int x) :: tl) st σ Post := z_iloadW hd rfl kk

theorem z_aload_4 {a0 a1 a2 a3 : Option Value} {x : Nat} {tl : List (Option Value)} (hd : decode k.2.1 pc = .ok (.aload 4, 2)) (kk : zV G sh k (pc + 2) (a0 :: a1 :: a2 :: a3 :: some (.ref x) :: tl) (.ref x :: st) σ Post) : zV G sh k pc (a0 :: a1 :: a2 :: a3 :: some (.ref x) :: tl) st σ Post := z_aloadW hd rfl kk

theorem z_istore_4 {a0 a1 a2 a3 : Option Value} {o : Option Value} {x : Int32} {tl : List (Option Value)} (hd : decode k.2.1 pc = .ok (.istore 4, 2)) (hin : 4 < k.2.2.1) (hp : zc1 a3 = true) (kk : zV G sh k (pc + 2) (a0 :: a1 :: a2 :: a3 :: some (.int x) :: tl) st σ Post) : zV G sh k pc (a0 :: a1 :: a2 :: a3 :: o :: tl) (.int x :: st) σ Post := z_istoreW (i := 4) hd (by simp) hin (zpvS (o := a3) rfl hp) kk

theorem z_iinc_4 {a0 a1 a2 a3 : Option Value} {n a : Int} {tl : List (Option Value)} (hd : decode k.2.1 pc = .ok (.iinc 4 n, 3)) (hin : 4 < k.2.2.1) (hp : zc1 a3 = true) (kk : zV G sh k (pc + 3) (a0 :: a1 :: a2 :: a3 :: some (.int (zI (a + n))) :: tl) st σ Post) : zV G sh k pc (a0 :: a1 :: a2 :: a3 :: some (.int (zI a)) :: tl) st σ Post := z_iincN hd rfl hin (zpvS (o := a3) rfl hp) kk

theorem z_iincw_4 {a0 a1 a2 a3 : Option Value} {n a : Int} {tl : List (Option Value)} (hd : decode k.2.1 pc = .ok (.iinc 4 n, 6)) (hin : 4 < k.2.2.1) (hp : zc1 a3 = true) (kk : zV G sh k (pc + 6) (a0 :: a1 :: a2 :: a3 :: some (.int (zI (a + n))) :: tl) st σ Post) : zV G sh k pc (a0 :: a1 :: a2 :: a3 :: some (.int (zI a)) :: tl) st σ Post := z_iincW hd rfl hin (zpvS (o := a3) rfl hp) kk

theorem z_iload_5 {a0 a1 a2 a3 a4 : Option Value} {x : Int32} {tl : List (Option Value)} (hd : decode k.2.1 pc = .ok (.iload 5, 2)) (kk : zV G sh k (pc + 2) (a0 :: a1 :: a2 :: a3 :: a4 :: some (.int x) :: tl) (.int x :: st) σ Post) : zV G sh k pc (a0 :: a1 :: a2 :: a3 :: a4 :: some (.int x) :: tl) st σ Post := z_iloadW hd rfl kk

theorem z_aload_5 {a0 a1 a2 a3 a4 : Option Value} {x : Nat} {tl : List (Option Value)} (hd : decode k.2.1 pc = .ok (.aload 5, 2)) (kk : zV G sh k (pc + 2) (a0 :: a1 :: a2 :: a3 :: a4 :: some (.ref x) :: tl) (.ref x :: st) σ Post) : zV G sh k pc (a0 :: a1 :: a2 :: a3 :: a4 :: some (.ref x) :: tl) st σ Post := z_aloadW hd rfl kk

theorem z_istore_5 {a0 a1 a2 a3 a4 : Option Value} {o : Option Value} {x : Int32} {tl : List (Option Value)} (hd : decode k.2.1 pc = .ok (.istore 5, 2)) (hin : 5 < k.2.2.1) (hp : zc1 a4 = true) (kk : zV G sh k (pc + 2) (a0 :: a1 :: a2 :: a3 :: a4 :: some (.int x) :: tl) st σ Post) : zV G sh k pc (a0 :: a1 :: a2 :: a3 :: a4 :: o :: tl) (.int x :: st) σ Post := z_istoreW (i := 5) hd (by simp) hin (zpvS (o := a4) rfl hp) kk

theorem z_iinc_5 {a0 a1 a2 a3 a4 : Option Value} {n a : Int} {tl : List (Option Value)} (hd : decode k.2.1 pc = .ok (.iinc 5 n, 3)) (hin : 5 < k.2.2.1) (hp : zc1 a4 = true) (kk : zV G sh k (pc + 3) (a0 :: a1 :: a2 :: a3 :: a4 :: some (.int (zI (a + n))) :: tl) st σ Post) : zV G sh k pc (a0 :: a1 :: a2 :: a3 :: a4 :: some (.int (zI a)) :: tl) st σ Post := z_iincN hd rfl hin (zpvS (o := a4) rfl hp) kk

theorem z_iincw_5 {a0 a1 a2 a3 a4 : Option Value} {n a : Int} {tl : List (Option Value)} (hd : decode k.2.1 pc = .ok (.iinc 5 n, 6)) (hin : 5 < k.2.2.1) (hp : zc1 a4 = true) (kk : zV G sh k (pc + 6) (a0 :: a1 :: a2 :: a3 :: a4 :: some (.int (zI (a + n))) :: tl) st σ Post) : zV G sh k pc (a0 :: a1 :: a2 :: a3 :: a4 :: some (.int (zI a)) :: tl) st σ Post := z_iincW hd rfl hin (zpvS (o := a4) rfl hp) kk

theorem z_iload_6 {a0 a1 a2 a3 a4 a5 : Option Value} {x : Int32} {tl : List (Option Value)} (hd : decode k.2.1 pc = .ok (.iload 6, 2)) (kk : zV G sh k (pc + 2) (a0 :: a1 :: a2 :: a3 :: a4 :: a5 :: some (.int x) :: tl) (.int x :: st) σ Post) : zV G sh k pc (a0 :: a1 :: a2 :: a3 :: a4 :: a5 :: some (.int x) :: tl) st σ Post := z_iloadW hd rfl kk

theorem z_aload_6 {a0 a1 a2 a3 a4 a5 : Option Value} {x : Nat} {tl : List (Option Value)} (hd : decode k.2.1 pc = .ok (.aload 6, 2)) (kk : zV G sh k (pc + 2) (a0 :: a1 :: a2 :: a3 :: a4 :: a5 :: some (.ref x) :: tl) (.ref x :: st) σ Post) : zV G sh k pc (a0 :: a1 :: a2 :: a3 :: a4 :: a5 :: some (.ref x) :: tl) st σ Post := z_aloadW hd rfl kk

theorem z_istore_6 {a0 a1 a2 a3 a4 a5 : Option Value} {o : Option Value} {x : Int32} {tl : List (Option Value)} (hd : decode k.2.1 pc = .ok (.istore 6, 2)) (hin : 6 < k.2.2.1) (hp : zc1 a5 = true) (kk : zV G sh k (pc + 2) (a0 :: a1 :: a2 :: a3 :: a4 :: a5 :: some (.int x) :: tl) st σ Post) : zV G sh k pc (a0 :: a1 :: a2 :: a3 :: a4 :: a5 :: o :: tl) (.int x :: st) σ Post := z_istoreW (i := 6) hd (by simp) hin (zpvS (o := a5) rfl hp) kk

theorem z_iinc_6 {a0 a1 a2 a3 a4 a5 : Option Value} {n a : Int} {tl : List (Option Value)} (hd : decode k.2.1 pc = .ok (.iinc 6 n, 3)) (hin : 6 < k.2.2.1) (hp : zc1 a5 = true) (kk : zV G sh k (pc + 3) (a0 :: a1 :: a2 :: a3 :: a4 :: a5 :: some (.int (zI (a + n))) :: tl) st σ Post) : zV G sh k pc (a0 :: a1 :: a2 :: a3 :: a4 :: a5 :: some (.int (zI a)) :: tl) st σ Post := z_iincN hd rfl hin (zpvS (o := a5) rfl hp) kk

theorem z_iincw_6 {a0 a1 a2 a3 a4 a5 : Option Value} {n a : Int} {tl : List (Option Value)} (hd : decode k.2.1 pc = .ok (.iinc 6 n, 6)) (hin : 6 < k.2.2.1) (hp : zc1 a5 = true) (kk : zV G sh k (pc + 6) (a0 :: a1 :: a2 :: a3 :: a4 :: a5 :: some (.int (zI (a + n))) :: tl) st σ Post) : zV G sh k pc (a0 :: a1 :: a2 :: a3 :: a4 :: a5 :: some (.int (zI a)) :: tl) st σ Post := z_iincW hd rfl hin (zpvS (o := a5) rfl hp) kk

theorem z_iload_7 {a0 a1 a2 a3 a4 a5 a6 : Option Value} {x : Int32} {tl : List (Option Value)} (hd : decode k.2.1 pc = .ok (.iload 7, 2)) (kk : zV G sh k (pc + 2) (a0 :: a1 :: a2 :: a3 :: a4 :: a5 :: a6 :: some (.int x) :: tl) (.int x :: st) σ Post) : zV G sh k pc (a0 :: a1 :: a2 :: a3 :: a4 :: a5 :: a6 :: some (.int x) :: tl) st σ Post := z_iloadW hd rfl kk

theorem z_aload_7 {a0 a1 a2 a3 a4 a5 a6 : Option Value} {x : Nat} {tl : List (Option Value)} (hd : decode k.2.1 pc = .ok (.aload 7, 2)) (kk : zV G sh k (pc + 2) (a0 :: a1 :: a2 :: a3 :: a4 :: a5 :: a6 :: some (.ref x) :: tl) (.ref x :: st) σ Post) : zV G sh k pc (a0 :: a1 :: a2 :: a3 :: a4 :: a5 :: a6 :: some (.ref x) :: tl) st σ Post := z_aloadW hd rfl kk

theorem z_istore_7 {a0 a1 a2 a3 a4 a5 a6 : Option Value} {o : Option Value} {x : Int32} {tl : List (Option Value)} (hd : decode k.2.1 pc = .ok (.istore 7, 2)) (hin : 7 < k.2.2.1) (hp : zc1 a6 = true) (kk : zV G sh k (pc + 2) (a0 :: a1 :: a2 :: a3 :: a4 :: a5 :: a6 :: some (.int x) :: tl) st σ Post) : zV G sh k pc (a0 :: a1 :: a2 :: a3 :: a4 :: a5 :: a6 :: o :: tl) (.int x :: st) σ Post := z_istoreW (i := 7) hd (by simp) hin (zpvS (o := a6) rfl hp) kk

theorem z_iinc_7 {a0 a1 a2 a3 a4 a5 a6 : Option Value} {n a : Int} {tl : List (Option Value)} (hd : decode k.2.1 pc = .ok (.iinc 7 n, 3)) (hin : 7 < k.2.2.1) (hp : zc1 a6 = true) (kk : zV G sh k (pc + 3) (a0 :: a1 :: a2 :: a3 :: a4 :: a5 :: a6 :: some (.int (zI (a + n))) :: tl) st σ Post) : zV G sh k pc (a0 :: a1 :: a2 :: a3 :: a4 :: a5 :: a6 :: some (.int (zI a)) :: tl) st σ Post := z_iincN hd rfl hin (zpvS (o := a6) rfl hp) kk

theorem z_iincw_7 {a0 a1 a2 a3 a4 a5 a6 : Option Value} {n a : Int} {tl : List (Option Value)} (hd : decode k.2.1 pc = .ok (.iinc 7 n, 6)) (hin : 7 < k.2.2.1) (hp : zc1 a6 = true) (kk : zV G sh k (pc + 6) (a0 :: a1 :: a2 :: a3 :: a4 :: a5 :: a6 :: some (.int (zI (a + n))) :: tl) st σ Post) : zV G sh k pc (a0 :: a1 :: a2 :: a3 :: a4 :: a5 :: a6 :: some (.int (zI a)) :: tl) st σ Post := z_iincW hd rfl hin (zpvS (o := a6) rfl hp) kk

theorem z_iload_8 {a0 a1 a2 a3 a4 a5 a6 a7 : Option Value} {x : Int32} {tl : List (Option Value)} (hd : decode k.2.1 pc = .ok (.iload 8, 2)) (kk : zV G sh k (pc + 2) (a0 :: a1 :: a2 :: a3 :: a4 :: a5 :: a6 :: a7 :: some (.int x) :: tl) (.int x :: st) σ Post) : zV G sh k pc (a0 :: a1 :: a2 :: a3 :: a4 :: a5 :: a6 :: a7 :: some (.int x) :: tl) st σ Post := z_iloadW hd rfl kk

theorem z_aload_8 {a0 a1 a2 a3 a4 a5 a6 a7 : Option Value} {x : Nat} {tl : List (Option Value)} (hd : decode k.2.1 pc = .ok (.aload 8, 2)) (kk : zV G sh k (pc + 2) (a0 :: a1 :: a2 :: a3 :: a4 :: a5 :: a6 :: a7 :: some (.ref x) :: tl) (.ref x :: st) σ Post) : zV G sh k pc (a0 :: a1 :: a2 :: a3 :: a4 :: a5 :: a6 :: a7 :: some (.ref x) :: tl) st σ Post := z_aloadW hd rfl kk

theorem z_istore_8 {a0 a1 a2 a3 a4 a5 a6 a7 : Option Value} {o : Option Value} {x : Int32} {tl : List (Option Value)} (hd : decode k.2.1 pc = .ok (.istore 8, 2)) (hin : 8 < k.2.2.1) (hp : zc1 a7 = true) (kk : zV G sh k (pc + 2) (a0 :: a1 :: a2 :: a3 :: a4 :: a5 :: a6 :: a7 :: some (.int x) :: tl) st σ Post) : zV G sh k pc (a0 :: a1 :: a2 :: a3 :: a4 :: a5 :: a6 :: a7 :: o :: tl) (.int x :: st) σ Post := z_istoreW (i := 8) hd (by simp) hin (zpvS (o := a7) rfl hp) kk

theorem z_iinc_8 {a0 a1 a2 a3 a4 a5 a6 a7 : Option Value} {n a : Int} {tl : List (Option Value)} (hd : decode k.2.1 pc = .ok (.iinc 8 n, 3)) (hin : 8 < k.2.2.1) (hp : zc1 a7 = true) (kk : zV G sh k (pc + 3) (a0 :: a1 :: a2 :: a3 :: a4 :: a5 :: a6 :: a7 :: some (.int (zI (a + n))) :: tl) st σ Post) : zV G sh k pc (a0 :: a1 :: a2 :: a3 :: a4 :: a5 :: a6 :: a7 :: some (.int (zI a)) :: tl) st σ Post := z_iincN hd rfl hin (zpvS (o := a7) rfl hp) kk

theorem z_iincw_8 {a0 a1 a2 a3 a4 a5 a6 a7 : Option Value} {n a : Int} {tl : List (Option Value)} (hd : decode k.2.1 pc = .ok (.iinc 8 n, 6)) (hin : 8 < k.2.2.1) (hp : zc1 a7 = true) (kk : zV G sh k (pc + 6) (a0 :: a1 :: a2 :: a3 :: a4 :: a5 :: a6 :: a7 :: some (.int (zI (a + n))) :: tl) st σ Post) : zV G sh k pc (a0 :: a1 :: a2 :: a3 :: a4 :: a5 :: a6 :: a7 :: some (.int (zI a)) :: tl) st σ Post := z_iincW hd rfl hin (zpvS (o := a7) rfl hp) kk

def zFld (own : String) (idx ci j : Nat) : Prop := ∃ (C : String) (T : u_T) (N : Nat) (ref : String), vwCl[ci]? = some (C, T, N) ∧ (∀ w ∈ u_ws C T N, w ∈ wsL_law0) ∧ j < N ∧ Cond.fieldLink own idx ref (T j).2.1 (T j).2.2.1 ∈ wsL_law0 ∧ ref = (T j).1
def zPut (own : String) (idx ci j : Nat) (ty : FieldType) : Prop := ∃ (C : String) (T : u_T) (N : Nat) (ref : String) (tyf : Nat → FieldType), vwCl[ci]? = some (C, T, N) ∧ (∀ w ∈ u_ws C T N, w ∈ wsL_law0) ∧ j < N ∧ Cond.fieldLink own idx ref (T j).2.1 (T j).2.2.1 ∈ wsL_law0 ∧ ref = (T j).1 ∧ (∀ k, k < N → parseFieldDescriptor (T k).2.2.1 = some (tyf k)) ∧ (∀ a, a < N → ∀ b, b < N → a ≠ b → (T a).2.1 ≠ (T b).2.1) ∧ (T j).2.2.2 = false ∧ parseFieldDescriptor (T j).2.2.1 = some ty
theorem z_getG {i j idx ci : Nat} {ks : List (Option Nat)} {v : Value} (hd : decode k.2.1 pc = .ok (.getfield idx, 3)) (hf : zFld k.1.cls idx ci j) (hs : sh[i]? = some (.inl (ci, ks))) (hv : (zfs G σ i ks)[j]? = some v) (kk : zV G sh k (pc + 3) lv (v :: st) σ Post) : zV G sh k pc lv (.ref (zad G i) :: st) σ Post := by
  intro hR p e s m args below meth c H locs A ls C hP hS hl
  obtain ⟨Cn, Tf, Nf, ref, h1, h2, h3, h4, h5⟩ := hf
  exact va_get (D := zD G) (C := Cn) (T := Tf) (N := Nf) (ref := ref) C.1 C.2.1 C.2.2.2.2.2.1 (fun w hw => List.mem_cons_of_mem _ (h2 w hw)) C.2.2.2.2.2.2.1 C.2.2.2.2.2.2.2.1 hP i (zw_at hs) h1 j h3 (C.2.2.2.2.2.1 _ (List.mem_cons_of_mem _ h4)) (fun x hx => by rw [h5]; exact hx) hv hd (kk hR p e s m args below meth c H locs A ls C hP hS hl)
theorem z_getI {i j idx ci : Nat} {ks : List (Option Nat)} (hd : decode k.2.1 pc = .ok (.getfield idx, 3)) (hf : zFld k.1.cls idx ci j) (hs : sh[i]? = some (.inl (ci, ks))) (hv : ks[j]? = some none) (kk : zV G sh k (pc + 3) lv (.int (zI (σ.1 i j)) :: st) σ Post) : zV G sh k pc lv (.ref (zad G i) :: st) σ Post := z_getG hd hf hs (zfs_at hv) kk
theorem z_getR {i j idx ci r : Nat} {ks : List (Option Nat)} (hd : decode k.2.1 pc = .ok (.getfield idx, 3)) (hf : zFld k.1.cls idx ci j) (hs : sh[i]? = some (.inl (ci, ks))) (hv : ks[j]? = some (some r)) (kk : zV G sh k (pc + 3) lv (.ref (zad G r) :: st) σ Post) : zV G sh k pc lv (.ref (zad G i) :: st) σ Post := z_getG hd hf hs (zfs_at hv) kk
theorem z_putG {i j idx ci : Nat} {ks : List (Option Nat)} {ty : FieldType} {x : Int} (hd : decode k.2.1 pc = .ok (.putfield idx, 3)) (hf : zPut k.1.cls idx ci j ty) (hs : sh[i]? = some (.inl (ci, ks))) (hv : ks[j]? = some none) (hx : zR x) (hn : narrow ty (.int (zI x)) = .int (zI x)) (hft : fits ty (.int (zI x)) = true) (kk : zV G sh k (pc + 3) lv st (zsF σ i j x) Post) : zV G sh k pc lv (.int (zI x) :: .ref (zad G i) :: st) σ Post := by
  intro hR p e s m args below meth c H locs A ls C hP hS hl
  obtain ⟨Cn, Tf, Nf, ref, tyf, h1, h2, h3, h4, h5, h6, h7, h8, h9⟩ := hf
  have hlen : j < (zfs G σ i ks).length := by rw [zfs, List.length_mapIdx]; exact (List.getElem?_eq_some_iff.mp hv).1
  refine va_put (D := zD G) (C := Cn) (T := Tf) (N := Nf) (ref := ref) (ty := ty) C.1 C.2.1 C.2.2.2.2.2.1 (fun w hw => List.mem_cons_of_mem _ (h2 w hw)) tyf h6 h7 C.2.2.2.2.2.2.1 C.2.2.2.2.2.2.2.1 hP (C.2.2.2.2.2.2.2.2.1 σ) hS i (zw_at hs) h1 j h3 (C.2.2.2.2.2.1 _ (List.mem_cons_of_mem _ h4)) (fun x hx => by rw [h5]; exact hx) h8 h9 hn hft hlen hd (fun H1 locs1 hP1 _ hS1 => ?_)
  rw [zfs_set x hv, zw_set (G := G) (σ := σ) (σ' := zsF σ i j x) (c := .inr (ci, zfs G (zsF σ i j x) i ks)) hs rfl (fun a ha => ⟨by funext b; show (if a = i ∧ b = j then x else σ.1 a b) = σ.1 a b; rw [if_neg (fun q => ha q.1)], rfl⟩)] at hP1
  exact kk (hR.F hx) p e s m args below meth c H1 locs1 A ls C hP1 hS1 hl
theorem z_putI {i j idx ci : Nat} {ks : List (Option Nat)} {x : Int} (hd : decode k.2.1 pc = .ok (.putfield idx, 3)) (hf : zPut k.1.cls idx ci j .int) (hs : sh[i]? = some (.inl (ci, ks))) (hv : ks[j]? = some none) (hx : zR x) (kk : zV G sh k (pc + 3) lv st (zsF σ i j x) Post) : zV G sh k pc lv (.int (zI x) :: .ref (zad G i) :: st) σ Post := z_putG hd hf hs hv hx rfl rfl kk
theorem z_putZ {i j idx ci : Nat} {ks : List (Option Nat)} {x : Int} (hd : decode k.2.1 pc = .ok (.putfield idx, 3)) (hf : zPut k.1.cls idx ci j .boolean) (hs : sh[i]? = some (.inl (ci, ks))) (hv : ks[j]? = some none) (hx : x = 0 ∨ x = 1) (kk : zV G sh k (pc + 3) lv st (zsF σ i j x) Post) : zV G sh k pc lv (.int (zI x) :: .ref (zad G i) :: st) σ Post := by
  rcases hx with rfl | rfl
  · exact z_putG hd hf hs hv (by omega) (by decide +kernel) (by decide +kernel) kk
  · exact z_putG hd hf hs hv (by omega) (by decide +kernel) (by decide +kernel) kk

theorem zT0 (G : zG) : (zT G)[0]? = some (G.2.2.2.1, .int) := rfl
theorem zT1 (G : zG) : (zT G)[1]? = some (G.2.2.2.2.1, .boolean) := rfl
theorem zT2 (G : zG) : (zT G)[2]? = some (G.2.2.2.2.2.1, .object RX1) := rfl
theorem z_alenI {i n : Nat} (hd : decode k.2.1 pc = .ok (.arraylength, 1)) (hs : sh[i]? = some (.inr (.inl (0, n)))) (kk : zV G sh k (pc + 1) lv (.int (zI n) :: st) σ Post) : zV G sh k pc lv (.ref (zad G i) :: st) σ Post := by
  intro hR p e s m args below meth c H locs A ls C hP hS hl
  exact va_alen C.1 C.2.1 C.2.2.2.2.2.2.2.1 hP i 0 (zw_at hs) (zT0 G) rfl hd (kk hR p e s m args below meth c H locs A ls C hP hS hl)
theorem z_alenZ {i n : Nat} (hd : decode k.2.1 pc = .ok (.arraylength, 1)) (hs : sh[i]? = some (.inr (.inl (1, n)))) (kk : zV G sh k (pc + 1) lv (.int (zI n) :: st) σ Post) : zV G sh k pc lv (.ref (zad G i) :: st) σ Post := by
  intro hR p e s m args below meth c H locs A ls C hP hS hl
  exact va_alen C.1 C.2.1 C.2.2.2.2.2.2.2.1 hP i 1 (zw_at hs) (zT1 G) rfl hd (kk hR p e s m args below meth c H locs A ls C hP hS hl)
theorem z_alenR {i : Nat} {rs : List Nat} (hd : decode k.2.1 pc = .ok (.arraylength, 1)) (hs : sh[i]? = some (.inr (.inr rs))) (kk : zV G sh k (pc + 1) lv (.int (zI rs.length) :: st) σ Post) : zV G sh k pc lv (.ref (zad G i) :: st) σ Post := by
  intro hR p e s m args below meth c H locs A ls C hP hS hl
  exact va_alen C.1 C.2.1 C.2.2.2.2.2.2.2.1 hP i 2 (zw_at hs) (zT2 G) rfl hd (kk hR p e s m args below meth c H locs A ls C hP hS hl)
theorem z_iald {i n : Nat} {z : Int} (hd : decode k.2.1 pc = .ok (.iaload, 1)) (hs : sh[i]? = some (.inr (.inl (0, n)))) (hn : n < 2147483648) (h0 : 0 ≤ z) (h1 : z < n) (kk : zV G sh k (pc + 1) lv (.int (zI (σ.2 i z)) :: st) σ Post) : zV G sh k pc lv (.int (zI z) :: .ref (zad G i) :: st) σ Post := by
  intro hR p e s m args below meth c H locs A ls C hP hS hl
  refine va_iald C.1 C.2.1 C.2.2.2.2.2.2.2.1 hP i 0 (zw_at hs) (zT0 G) (zI_in h0 h1 hn) hd ?_
  have e1 : (((zI z).toNatClampNeg : Nat) : Int) = z := by rw [zI_cl h0 (by omega)]; omega
  show W _ _ _ _ _ _ _ _ _ _ _ _ _ _ _ (F0 m (pc + 1) ls (.int (zI (σ.2 i (((zI z).toNatClampNeg : Nat) : Int))) :: st))
  rw [e1]
  exact kk hR p e s m args below meth c H locs A ls C hP hS hl
theorem z_zald {i n : Nat} {z : Int} (hd : decode k.2.1 pc = .ok (.baload, 1)) (hs : sh[i]? = some (.inr (.inl (1, n)))) (hn : n < 2147483648) (h0 : 0 ≤ z) (h1 : z < n) (kk : zV G sh k (pc + 1) lv (.int (zI (σ.2 i z)) :: st) σ Post) : zV G sh k pc lv (.int (zI z) :: .ref (zad G i) :: st) σ Post := by
  intro hR p e s m args below meth c H locs A ls C hP hS hl
  refine va_zald C.1 C.2.1 C.2.2.2.2.2.2.2.1 hP i 1 (zw_at hs) (zT1 G) (zI_in h0 h1 hn) hd ?_
  have e1 : (((zI z).toNatClampNeg : Nat) : Int) = z := by rw [zI_cl h0 (by omega)]; omega
  show W _ _ _ _ _ _ _ _ _ _ _ _ _ _ _ (F0 m (pc + 1) ls (.int (zI (σ.2 i (((zI z).toNatClampNeg : Nat) : Int))) :: st))
  rw [e1]
  exact kk hR p e s m args below meth c H locs A ls C hP hS hl
theorem zupd {i : Nat} {z x : Int} (h0 : 0 ≤ z) (h1 : z < 2147483648) : upd (fun q : Nat => zI (σ.2 i q)) (zI z).toNatClampNeg (zI x) = fun q : Nat => zI ((zsA σ i z x).2 i q) := by
  funext q
  show (if q = (zI z).toNatClampNeg then zI x else zI (σ.2 i q)) = zI (if i = i ∧ (q : Int) = z then x else σ.2 i q)
  rw [zI_cl h0 h1]
  by_cases hq : (q : Int) = z
  · rw [if_pos (by omega), if_pos ⟨rfl, hq⟩]
  · rw [if_neg (by omega), if_neg (fun h => hq h.2)]
theorem zsA_ne {i : Nat} {z x : Int} (a : Nat) (ha : a ≠ i) : (zsA σ i z x).1 a = σ.1 a ∧ (zsA σ i z x).2 a = σ.2 a := ⟨rfl, by funext b; show (if a = i ∧ b = z then x else σ.2 a b) = σ.2 a b; rw [if_neg (fun q => ha q.1)]⟩
theorem z_iast {i n : Nat} {z x : Int} (hd : decode k.2.1 pc = .ok (.iastore, 1)) (hs : sh[i]? = some (.inr (.inl (0, n)))) (hn : n < 2147483648) (h0 : 0 ≤ z) (h1 : z < n) (hx : zR x) (kk : zV G sh k (pc + 1) lv st (zsA σ i z x) Post) : zV G sh k pc lv (.int (zI x) :: .int (zI z) :: .ref (zad G i) :: st) σ Post := by
  intro hR p e s m args below meth c H locs A ls C hP hS hl
  refine va_iast C.1 C.2.1 C.2.2.2.2.2.2.2.1 hP (C.2.2.2.2.2.2.2.2.1 σ) hS i 0 (zw_at hs) (zT0 G) (zI_in h0 h1 hn) hd (fun H1 locs1 hP1 _ hS1 => ?_)
  rw [zupd h0 (by omega), zw_set (G := G) (σ := σ) (σ' := zsA σ i z x) (c := .inl (G.2.2.2.1, n, .inl fun q : Nat => zI ((zsA σ i z x).2 i q))) hs rfl zsA_ne] at hP1
  exact kk (hR.A hx) p e s m args below meth c H1 locs1 A ls C hP1 hS1 hl
theorem z_zast {i n : Nat} {z x : Int} (hd : decode k.2.1 pc = .ok (.bastore, 1)) (hs : sh[i]? = some (.inr (.inl (1, n)))) (hn : n < 2147483648) (h0 : 0 ≤ z) (h1 : z < n) (hx : x = 0 ∨ x = 1) (kk : zV G sh k (pc + 1) lv st (zsA σ i z x) Post) : zV G sh k pc lv (.int (zI x) :: .int (zI z) :: .ref (zad G i) :: st) σ Post := by
  intro hR p e s m args below meth c H locs A ls C hP hS hl
  refine va_zast C.1 C.2.1 C.2.2.2.2.2.2.2.1 hP (C.2.2.2.2.2.2.2.2.1 σ) hS i 1 (zw_at hs) (zT1 G) (zI_in h0 h1 hn) hd (fun H1 locs1 hP1 _ hS1 => ?_)
  have hnar : vp_nar .boolean (zI x) = zI x := by rcases hx with rfl | rfl <;> decide +kernel
  rw [hnar, zupd h0 (by omega), zw_set (G := G) (σ := σ) (σ' := zsA σ i z x) (c := .inl (G.2.2.2.2.1, n, .inl fun q : Nat => zI ((zsA σ i z x).2 i q))) hs rfl zsA_ne] at hP1
  exact kk (hR.A (by rcases hx with rfl | rfl <;> omega)) p e s m args below meth c H1 locs1 A ls C hP1 hS1 hl
theorem z_aald {i : Nat} {rs : List Nat} {z : Int} {r : Nat} (hd : decode k.2.1 pc = .ok (.aaload, 1)) (hs : sh[i]? = some (.inr (.inr rs))) (hn : rs.length < 2147483648) (h0 : 0 ≤ z) (hr : rs[z.toNat]? = some r) (kk : zV G sh k (pc + 1) lv (.ref (zad G r) :: st) σ Post) : zV G sh k pc lv (.int (zI z) :: .ref (zad G i) :: st) σ Post := by
  intro hR p e s m args below meth c H locs A ls C hP hS hl
  have hz : z.toNat < rs.length := (List.getElem?_eq_some_iff.mp hr).1
  refine va_aldq C.1 C.2.1 C.2.2.2.2.2.2.2.1 hP i 2 (zw_at hs) (zT2 G) (zI_in h0 (by omega) hn) hd ?_
  have e1 : (rs[(zI z).toNatClampNeg]?).map (zad G) = some (zad G r) := by rw [zI_cl h0 (by omega), hr]; rfl
  show W _ _ _ _ _ _ _ _ _ _ _ _ _ _ _ (F0 m (pc + 1) ls (va_rf ((rs[(zI z).toNatClampNeg]?).map (zad G)) :: st))
  rw [e1]
  exact kk hR p e s m args below meth c H locs A ls C hP hS hl
theorem z_copy {i0 i1 n0 n1 idx : Nat} {sp dp n : Int} (hd : decode k.2.1 pc = .ok (.invokestatic idx, 3)) (hml : Cond.methodLink k.1.cls idx arraycopyName ∈ wsL_law0) (hna : Cond.native arraycopyName ∈ wsL_law0) (hst : Cond.static arraycopyName ∈ wsL_law0) (hin : Cond.initialized "java/lang/System" ∈ wsL_law0)
    (hs0 : sh[i0]? = some (.inr (.inl (0, n0)))) (hs1 : sh[i1]? = some (.inr (.inl (0, n1)))) (hn0 : n0 < 2147483648) (hn1 : n1 < 2147483648) (h1 : 0 ≤ sp) (h2 : 0 ≤ dp) (h3 : 0 ≤ n) (h4 : sp + n ≤ n0) (h5 : dp + n ≤ n1) (hrm : 1 ≤ k.2.2.2.2.1 ∧ 8 + (nativeFrameWords "java/lang/System" "arraycopy" 5 + 11) ≤ k.2.2.2.2.2.1) (hcat : (st.map fun v => v.category).sum ≤ 8)
    (kk : zV G sh k (pc + 3) lv st (zsC σ i0 sp i1 dp n) Post) : zV G sh k pc lv (.int (zI n) :: .int (zI dp) :: .ref (zad G i1) :: .int (zI sp) :: .ref (zad G i0) :: st) σ Post := by
  intro hR p e s m args below meth c H locs A ls C hP hS hl
  have hts := fun w h => C.2.2.2.2.2.1 w (List.mem_cons_of_mem _ h)
  have hlt : ∀ a : Int, 0 ≤ a → a < 2147483648 → ¬ zI a < 0 := fun a h0 h1 h => by rw [zI_lt0 (by omega)] at h; omega
  refine va_copyi C.1 C.2.1 (C.2.2.2.2.1.trans hl.1.symm) C.2.2.2.2.2.2.1 (hts _ hml) (hts _ hna) (hts _ hst) (hts _ hin) C.2.2.2.2.2.2.2.1 hP (C.2.2.2.2.2.2.2.2.1 σ) hS i0 i1 0 0 (zw_at hs0) (zw_at hs1) (zT0 G) (zT0 G) rfl (hlt sp h1 (by omega)) (hlt dp h2 (by omega)) (hlt n h3 (by omega)) (by rw [zI_cl h1 (by omega), zI_cl h3 (by omega)]; omega) (by rw [zI_cl h2 (by omega), zI_cl h3 (by omega)]; omega) (fun _ _ => rfl) hrm.1 (Nat.le_trans (Nat.add_le_add_right hcat _) hrm.2) hd (fun H1 locs1 hP1 _ hS1 => ?_)
  have e1 : va_cpy (fun q : Nat => zI (σ.2 i0 q)) (fun q : Nat => zI (σ.2 i1 q)) (zI sp).toNatClampNeg (zI dp).toNatClampNeg (zI n).toNatClampNeg = fun q : Nat => zI ((zsC σ i0 sp i1 dp n).2 i1 q) := by
    funext q
    show (if (zI dp).toNatClampNeg ≤ q ∧ q < (zI dp).toNatClampNeg + (zI n).toNatClampNeg then zI (σ.2 i0 (((zI sp).toNatClampNeg + (q - (zI dp).toNatClampNeg) : Nat) : Int)) else zI (σ.2 i1 q)) = zI (if i1 = i1 ∧ dp ≤ (q : Int) ∧ (q : Int) < dp + n then σ.2 i0 (sp + (q - dp)) else σ.2 i1 q)
    rw [zI_cl h1 (by omega), zI_cl h2 (by omega), zI_cl h3 (by omega)]
    by_cases hq : dp ≤ (q : Int) ∧ (q : Int) < dp + n
    · rw [if_pos (by omega), if_pos ⟨rfl, hq⟩]
      have : ((sp.toNat + (q - dp.toNat) : Nat) : Int) = sp + (q - dp) := by omega
      rw [this]
    · rw [if_neg (by omega), if_neg (fun h => hq h.2)]
  rw [e1, zw_set (G := G) (σ := σ) (σ' := zsC σ i0 sp i1 dp n) (c := .inl (G.2.2.2.1, n1, .inl fun q : Nat => zI ((zsC σ i0 sp i1 dp n).2 i1 q))) hs1 rfl (fun a ha => ⟨rfl, by funext b; show (if a = i1 ∧ dp ≤ b ∧ b < dp + n then σ.2 i0 (sp + (b - dp)) else σ.2 a b) = σ.2 a b; rw [if_neg (fun q => ha q.1)]⟩)] at hP1
  exact kk hR.C p e s m args below meth c H1 locs1 A ls C hP1 hS1 hl

theorem z_iret {a : Int} (hd : decode k.2.1 pc = .ok (.ireturn, 1)) (hr : k.2.2.2.1 = some .int) (h : Post (some (.int (zI a))) σ) : zV G sh k pc lv [.int (zI a)] σ Post := by
  intro hR p e s m args below meth c H locs A ls C hP hS hl
  have hlocks := C.2.2.2.1
  exact W.iret C.1 C.2.1 (C.2.2.1.trans hr) (fun t ht hW => ⟨⟨_, σ, rfl, hR, h, by rw [ht]; exact hP⟩, hS.F ht⟩) hS.2.2 hd
theorem z_zret {a : Int} (hd : decode k.2.1 pc = .ok (.ireturn, 1)) (hr : k.2.2.2.1 = some .boolean) (ha : a = 0 ∨ a = 1) (h : Post (some (.int (zI a))) σ) : zV G sh k pc lv [.int (zI a)] σ Post := by
  intro hR p e s m args below meth c H locs A ls C hP hS hl
  have hlocks := C.2.2.2.1
  exact W.zret C.1 C.2.1 (C.2.2.1.trans hr) (by rcases ha with rfl | rfl <;> decide +kernel) (fun t ht hW => ⟨⟨_, σ, rfl, hR, h, by rw [ht]; exact hP⟩, hS.F ht⟩) hS.2.2 hd
theorem z_vret (hd : decode k.2.1 pc = .ok (.return_, 1)) (hr : k.2.2.2.1 = none) (h : Post none σ) : zV G sh k pc lv [] σ Post := by
  intro hR p e s m args below meth c H locs A ls C hP hS hl
  have hlocks := C.2.2.2.1
  exact W.vret C.1 C.2.1 (C.2.2.1.trans hr) (fun t ht hW => ⟨⟨_, σ, rfl, hR, h, by rw [ht]; exact hP⟩, hS.F ht⟩) hS.2.2 hd
theorem z_aret {v : Value} {rt : String} (hd : decode k.2.1 pc = .ok (.areturn, 1)) (hr : k.2.2.2.1 = some (.object rt)) (hv : v = .null ∨ ∃ a, v = .ref a) (h : Post (some v) σ) : zV G sh k pc lv [v] σ Post := by
  intro hR p e s m args below meth c H locs A ls C hP hS hl
  have hlocks := C.2.2.2.1
  exact W.aret C.1 C.2.1 (C.2.2.1.trans hr) (Or.inl ⟨_, rfl⟩) hv (fun t ht hW => ⟨⟨_, σ, rfl, hR, h, by rw [ht]; exact hP⟩, hS.F ht⟩) hS.2.2 hd

end zRows

def zexp : List Value → List (Option Value)
  | [] => []
  | v :: vs => if v.category = 2 then some v :: none :: zexp vs else some v :: zexp vs
def zini (n : Nat) (vs : List Value) : List (Option Value) := zexp vs ++ List.replicate (n - (zexp vs).length) none
theorem zlv_nones : ∀ (n i : Nat), zlv i (List.replicate n none) = []
  | 0, _ => rfl
  | n + 1, i => by rw [List.replicate_succ, zlv]; exact zlv_nones n (i + 1)
theorem zlv_exp (r : List (Option Value)) (hr : ∀ i, zlv i r = []) : ∀ (vs : List Value) (i : Nat), zlv i (zexp vs ++ r) = lv_args i vs
  | [], i => hr i
  | v :: vs, i => by
    rw [zexp, lv_args]
    by_cases h : v.category = 2
    · rw [if_pos h, if_pos h]
      show (i, v) :: zlv (i + 1 + 1) (zexp vs ++ r) = _
      rw [zlv_exp r hr vs]
    · rw [if_neg h, if_neg h]
      show (i, v) :: zlv (i + 1) (zexp vs ++ r) = _
      rw [zlv_exp r hr vs]
theorem zlv_ini (n : Nat) (vs : List Value) : zlv 0 (zini n vs) = lv_args 0 vs := zlv_exp _ (fun i => zlv_nones _ i) vs 0
theorem zw_adr {G : zG} {sh : List zSh} {σ σ' : zSt} {i : Nat} {q : Nat × va_E} (h : (zw G sh σ')[i]? = some q) : ∃ e, (zw G sh σ)[i]? = some (q.1, e) := by
  rw [zw, List.getElem?_mapIdx] at h ⊢
  cases hs : sh[i]? with
  | none => rw [hs] at h; cases h
  | some s => rw [hs] at h; cases h; exact ⟨_, rfl⟩
def zgw : List Cond := wsL_law0
theorem z_good : wsL_law0.all goodWord = true := by decide +kernel
theorem z_goodw {w : Cond} (h : w ∈ wsL_law0) : (w.onTables && w.keeps) = true ∨ ∃ ty, w = .arrayClass ty := good_of_word (List.all_eq_true.mp z_good w h)
def zcal (j : zM) (n : Nat) : Prop := (Cond.initialized j.1.cls ∈ wsL_law0 ∧ Cond.code j.1 j.2.1 j.2.2.1 j.2.2.2.1 ∈ wsL_law0) ∧ (j.1.cls ≠ "java/lang/invoke/MethodHandle" ∧ j.1.cls ≠ "java/lang/invoke/VarHandle" ∧ (parseMethodDescriptor j.1.desc).map (fun d => d.parameters.length) = some n) ∧ plainName j.1.cls = true ∧ j.2.2.2.2.2.2 = (0, 0)
def zcalV (j : zM) (C : String) (n : Nat) : Prop := zcal j n ∧ Cond.instanceMethod j.1 ∈ wsL_law0 ∧ Cond.selects C j.1 j.1 ∈ wsL_law0
def zcalS (j : zM) (n : Nat) : Prop := zcal j n ∧ Cond.static j.1 ∈ wsL_law0
def zpc (G : zG) (sh : List zSh) (σ : zSt) (sz : Nat) (as : List Value) : Array Value → State → Prop := va_Pc as (fun U => U.heap.size = sz ∧ va_P (zD G) vwCl (zw G sh σ) U.heap ∧ va_K (zD G) vwCl (zT G) U ∧ ∀ σ, va_D (fun _ => True) (zw G sh σ))
theorem z_met (j : zM) {G : zG} {sh : List zSh} {as : List Value} {σ : zSt} {Post : Option Value → zSt → Prop} (sz : Nat) (hy : plainName j.1.cls = true) (h0 : j.2.2.2.2.2.2 = (0, 0)) (hlen : (lg_sl as).length ≤ j.2.2.1) (hV : zV G sh j 0 (zini j.2.2.1 as) [] σ Post) (hR : zRg σ) :
    Met G.1 j.1 (zws j) (zrm j) (zpc G sh σ sz as) (zQ G sh Post (va_A (zw G sh σ) sz)) 0 0 (va_A (zw G sh σ) sz) := by
  obtain ⟨jy, jb, jm, jr, jf, jl, jc⟩ := j
  cases h0
  refine Met.ofW (cc := jb) (maxL := jm) (ret := jr) hy rfl ?_
  intro p e s m args below meth c s₁ B hml hv
  obtain ⟨rfl, hsz, hP, hK, hD0⟩ := hv
  have hl := lv_entry as (n := jm) hlen
  rw [lg_entry_eq]
  refine hV hR p e s m _ below meth c s.heap [] (va_A (zw G sh σ) sz) _ ⟨B.exec, B.bytes, B.returns, B.notSynchronized, hml, atoms_spec (ws := zws (jy, jb, jm, jr, jf, jl, 0, 0)) B.pre, findClass_of_methodNamed B.named, hK, fun σ' => ⟨(hD0 σ').1, fun i q hq => ?_⟩, fun q hq => Or.inr (by rw [← hsz]; exact hq)⟩ hP va_S.rf ?_
  · obtain ⟨e, he⟩ := zw_adr (σ := σ) hq
    exact Or.inl ⟨i, e, he⟩
  · rw [zlv_ini]; exact hl
theorem zpc_blind {G : zG} {sh : List zSh} {σ : zSt} {sz : Nat} {as : List Value} : FrameBlind (zpc G sh σ sz as) := fun a U g mk q => by
  obtain ⟨q0, q1, qP, qK, qD⟩ := q
  exact ⟨q0, q1, qP, va_K.moved (u := U) (U := U.calling g mk a) (Vm.Alike.refl U.vm) qK, qD⟩
section zCalls
variable {G : zG} {sh : List zSh} {k : zM} {pc : Nat} {lv : List (Option Value)} {st : List Value} {σ : zSt} {Post : Option Value → zSt → Prop}
theorem z_run {p : Program} {e : Env} {s : State} {m : MethodId} {args : Array Value} {below : List Frame} {meth : Method} {c : Code} {H : Heap} {locs : List Loc} {A : Nat → Prop} {ls : Array Slot} {st0 : List Value} {a : Array Value} (C : zC G sh k p s m args meth c A) (hS : va_S A s.heap H locs) (hl : lv_has ls k.2.2.1 (zlv 0 lv))
    (hr : va_Run p G.1 e (zrm k) s m args below meth c H locs k.2.2.2.2.2.2.1 k.2.2.2.2.2.2.2 0 0 (F0 m pc ls st0) st (zQ G sh (fun v σ' => zV G sh k (pc + 3) lv (v.toList ++ st) σ' Post) (va_A (zw G sh σ) H.size) a) (va_A (zw G sh σ) H.size)) :
    W p G.1 e (zrm k) s m args below meth c H locs k.2.2.2.2.2.2.1 k.2.2.2.2.2.2.2 (MQ below (zQ G sh Post A) args s k.2.2.2.2.2.2.1 k.2.2.2.2.2.2.2 A) (F0 m pc ls st0) := by
  intro T hT X
  obtain ⟨v, st₀, t, T', L, h0, X', hL, e1, e2, ⟨⟨v', σ', hv, hR', hp, hP'⟩, hz, hk⟩, stp⟩ := hr T hT X
  cases hv
  have hA : ∀ q, va_A (zw G sh σ) H.size q → A q := by
    rintro q (⟨i, e, he⟩ | h)
    · exact (C.2.2.2.2.2.2.2.2.1 σ).2 i (q, e) he
    · exact C.2.2.2.2.2.2.2.2.2 q (Nat.le_trans hS.1 h)
  rw [h0] at hz hk
  obtain ⟨t2, a1, b1⟩ := hp hR' p e s m args below meth c T'.heap (locs ++ L) A ls C (by rw [e1]; exact hP')
    ⟨Nat.le_trans hS.1 (by rw [e1]; exact hz), fun q h1 h2 => by rw [e1, hk q (Nat.lt_of_lt_of_le h1 hS.1) (fun z => h2 (hA q z))]; exact hS.2.1 q h1 h2, fun q hq => by
      rcases List.mem_append.mp hq with h | h
      · exact hS.2.2 q h
      · exact hA _ (hL q h)⟩ hl T' rfl X'
  exact ⟨t2, stp t2 a1, b1⟩
theorem z_callV {C : String} {T : u_T} {N idx i ci : Nat} {ks : List (Option Nat)} (j : zM) (As : List Value) (hd : decode k.2.1 pc = .ok (.invokevirtual idx, 3)) (hj : zcalV j C As.length) (hml : Cond.methodLink k.1.cls idx j.1 ∈ wsL_law0) (hrm : j.2.2.2.2.1 + 1 ≤ k.2.2.2.2.1 ∧ 8 + (j.2.2.1 + 11) + j.2.2.2.2.2.1 ≤ k.2.2.2.2.2.1) (hs : sh[i]? = some (.inl (ci, ks))) (hc : vwCl[ci]? = some (C, T, N)) (hlen : (lg_sl (.ref (zad G i) :: As)).length ≤ j.2.2.1) (hcat : (st.map fun v => v.category).sum ≤ 8)
    (kk : zV G sh j 0 (zini j.2.2.1 (.ref (zad G i) :: As)) [] σ (fun v σ' => zV G sh k (pc + 3) lv (v.toList ++ st) σ' Post)) : zV G sh k pc lv (As.reverse ++ .ref (zad G i) :: st) σ Post := by
  intro hR p e s m args below meth c H locs A ls C hP hS hl
  obtain ⟨⟨⟨g1, g2⟩, g3, g4, g5⟩, g6, g7⟩ := hj
  have hts := fun w h => C.2.2.2.2.2.1 w (List.mem_cons_of_mem _ h)
  have hM := z_met j H.size g4 g5 hlen kk hR
  have hgood : GoodIn (zws k) (zws j) := fun w hw => by
    have hw' : w ∈ wsL_law0 := by
      rcases List.mem_cons.mp hw with rfl | h
      · exact g2
      · exact h
    exact ⟨List.mem_cons_of_mem _ hw', z_goodw hw'⟩
  have cb := callB_of (own := k.1.cls) (index := idx) (R := zrm k) (rm := zrm j) (mc := 0) (ms := 0) As.length C.2.2.2.2.2.1 hgood rfl (by show j.2.2.2.2.2.2.1 = 0; rw [g5]) (by show j.2.2.2.2.2.2.2 = 0; rw [g5]) (hts _ g1) (hts _ hml) g3 hrm
  refine z_run C hS hl (va_runV (As := As) (rest := st) (own := k.1.cls) ⟨C.1, C.2.1, C.2.2.2.2.1, C.2.2.2.2.2.2.1, C.2.2.2.2.2.1⟩ hM ⟨cb, hts _ g6, hts _ g7⟩ ⟨zpc_blind, va_recv C.2.2.2.2.2.2.2.1 hP hc (zw_at hs), fun U hU hW => ⟨rfl, by rw [hU], by rw [hU]; exact hP, va_K.moved hW.alike C.2.2.2.2.2.2.2.1, fun σ => (C.2.2.2.2.2.2.2.2.1 σ).weaken (fun _ _ _ _ => trivial)⟩⟩ rfl rfl hl.1 rfl (lv_room hcat) hd ⟨?_, ?_⟩)
  · exact Nat.le_refl _
  · exact Nat.le_refl _
theorem z_callS {idx : Nat} (j : zM) (As : List Value) (hd : decode k.2.1 pc = .ok (.invokestatic idx, 3)) (hj : zcalS j As.length) (hml : Cond.methodLink k.1.cls idx j.1 ∈ wsL_law0) (hrm : j.2.2.2.2.1 + 1 ≤ k.2.2.2.2.1 ∧ 8 + (j.2.2.1 + 11) + j.2.2.2.2.2.1 ≤ k.2.2.2.2.2.1) (hlen : (lg_sl As).length ≤ j.2.2.1) (hcat : (st.map fun v => v.category).sum ≤ 8)
    (kk : zV G sh j 0 (zini j.2.2.1 As) [] σ (fun v σ' => zV G sh k (pc + 3) lv (v.toList ++ st) σ' Post)) : zV G sh k pc lv (As.reverse ++ st) σ Post := by
  intro hR p e s m args below meth c H locs A ls C hP hS hl
  obtain ⟨⟨⟨g1, g2⟩, g3, g4, g5⟩, g6⟩ := hj
  have hts := fun w h => C.2.2.2.2.2.1 w (List.mem_cons_of_mem _ h)
  have hM := z_met j H.size g4 g5 hlen kk hR
  have hgood : GoodIn (zws k) (zws j) := fun w hw => by
    have hw' : w ∈ wsL_law0 := by
      rcases List.mem_cons.mp hw with rfl | h
      · exact g2
      · exact h
    exact ⟨List.mem_cons_of_mem _ hw', z_goodw hw'⟩
  have cb := callB_of (own := k.1.cls) (index := idx) (R := zrm k) (rm := zrm j) (mc := 0) (ms := 0) As.length C.2.2.2.2.2.1 hgood rfl (by show j.2.2.2.2.2.2.1 = 0; rw [g5]) (by show j.2.2.2.2.2.2.2 = 0; rw [g5]) (hts _ g1) (hts _ hml) g3 hrm
  exact z_run C hS hl (va_runS (As := As) (rest := st) (own := k.1.cls) ⟨C.1, C.2.1, C.2.2.2.2.1, C.2.2.2.2.2.2.1, C.2.2.2.2.2.1⟩ hM ⟨cb, hts _ g6⟩ ⟨zpc_blind, fun U hU hW => ⟨rfl, by rw [hU], by rw [hU]; exact hP, va_K.moved hW.alike C.2.2.2.2.2.2.2.1, fun σ => (C.2.2.2.2.2.2.2.2.1 σ).weaken (fun _ _ _ _ => trivial)⟩⟩ rfl rfl hl.1 rfl (lv_room hcat) hd ⟨Nat.le_refl _, Nat.le_refl _⟩)
end zCalls

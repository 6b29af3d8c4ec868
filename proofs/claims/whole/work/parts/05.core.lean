/-! WHOLE NUMBERS AS THE MACHINE'S -/
def zI (z : Int) : Int32 := Int32.ofInt z
def zL (z : Int) : Int64 := Int64.ofInt z
theorem zI_add (a b : Int) : zI a + zI b = zI (a + b) := (Int32.ofInt_add a b).symm
theorem zI_sub (a b : Int) : zI a - zI b = zI (a - b) := (Int32.ofInt_sub a b).symm
theorem zI_mul (a b : Int) : zI a * zI b = zI (a * b) := (Int32.ofInt_mul a b).symm
theorem zL_add (a b : Int) : zL a + zL b = zL (a + b) := (Int64.ofInt_add a b).symm
theorem zL_mul (a b : Int) : zL a * zL b = zL (a * b) := (Int64.ofInt_mul a b).symm
theorem zI_toInt {a : Int} (h : -2147483648 ≤ a ∧ a < 2147483648) : (zI a).toInt = a := Int32.toInt_ofInt_of_le (by omega) (by omega)
theorem zI_le {a b : Int} (h : (-2147483648 ≤ a ∧ a < 2147483648) ∧ (-2147483648 ≤ b ∧ b < 2147483648)) : zI a ≤ zI b ↔ a ≤ b := by
  rw [Int32.le_iff_toInt_le, zI_toInt h.1, zI_toInt h.2]
theorem zI_lt {a b : Int} (h : (-2147483648 ≤ a ∧ a < 2147483648) ∧ (-2147483648 ≤ b ∧ b < 2147483648)) : zI a < zI b ↔ a < b := by
  rw [Int32.lt_iff_toInt_lt, zI_toInt h.1, zI_toInt h.2]
theorem zI_eq {a b : Int} (h : (-2147483648 ≤ a ∧ a < 2147483648) ∧ (-2147483648 ≤ b ∧ b < 2147483648)) : zI a = zI b ↔ a = b := by
  refine ⟨fun e => ?_, fun e => e ▸ rfl⟩
  have := congrArg Int32.toInt e
  rwa [zI_toInt h.1, zI_toInt h.2] at this
theorem zI_0 : (0 : Int32) = zI 0 := rfl
theorem zI_of (x : Int32) : ∃ z : Int, (-2147483648 ≤ z ∧ z < 2147483648) ∧ x = zI z := by
  refine ⟨x.toInt, ⟨?_, ?_⟩, (Int32.ofInt_toInt x).symm⟩
  · have := Int32.le_toInt x
    omega
  · have := Int32.toInt_lt x
    omega
theorem zI_min : Int32.minValue.toInt = -2147483648 := by decide +kernel
theorem zI_max : Int32.maxValue.toInt = 2147483647 := by decide +kernel
theorem zI_div {a b : Int} (h : (0 ≤ a ∧ a < 2147483648) ∧ (0 < b ∧ b < 2147483648)) : zI a / zI b = zI (a / b) := by
  unfold zI
  rw [← Int32.ofInt_tdiv (by rw [zI_min]; omega) (by rw [zI_max]; omega) (by rw [zI_min]; omega) (by rw [zI_max]; omega), Int.tdiv_eq_ediv_of_nonneg h.1.1]
theorem zI_rem {a b : Int} (h : (0 ≤ a ∧ a < 2147483648) ∧ (0 < b ∧ b < 2147483648)) : zI a - zI a / zI b * zI b = zI (a % b) := by
  rw [zI_div h, zI_mul, zI_sub]
  congr 1
  rw [Int.emod_def, Int.mul_comm]
theorem zI_toL {a : Int} (h : -2147483648 ≤ a ∧ a < 2147483648) : (zI a).toInt64 = zL a := Int32.toInt64_ofInt (by rw [zI_min]; omega) (by rw [zI_max]; omega)
theorem zI_in {z : Int} {n : Nat} (h : 0 ≤ z ∧ z < n) (hn : n < 2147483648) : vp_in (zI z) n := by
  rw [vp_in_iff, zI_toInt (by omega)]
  exact h
theorem zI_cl {z : Int} (h : 0 ≤ z ∧ z < 2147483648) : ((zI z).toNatClampNeg : Int) = z := by
  have h1 : (zI z).toNatClampNeg = (zI z).toInt.toNat := rfl
  rw [h1, zI_toInt (by omega), Int.toNat_of_nonneg h.1]
/-! THE WORLD OF ONE OBJECT AND ITS ROWS -/
abbrev Sf : Type := Nat → Int → Int
abbrev Sh : Type := (Nat × List Nat) ⊕ (Nat × Nat)
def fvl (ad : Nat → Nat) (f : Sf) (j c : Nat) : Value := match c with
  | 0 => .int (zI (f (20 + j) 0))
  | 1 => .long (zL (f (20 + j) 0))
  | n + 2 => .ref (ad n)
def cel (ad : Nat → Nat) (ty : Nat → ClassId) (f : Sf) (k : Nat) (s : Sh) : va_E := match s with
  | .inl o => .inr (o.1, o.2.mapIdx (fun j c => fvl ad f j c))
  | .inr a => .inl (ty a.1, a.2, .inl (fun i => zI (f k (i : Int))))
def wd (ad : Nat → Nat) (ty : Nat → ClassId) (f : Sf) (sh : List Sh) : va_W := sh.mapIdx (fun k s => (ad k, cel ad ty f k s))
theorem wd_get {ad : Nat → Nat} {ty : Nat → ClassId} {f : Sf} {sh : List Sh} {k : Nat} {s : Sh} (h : sh[k]? = some s) : (wd ad ty f sh)[k]? = some (ad k, cel ad ty f k s) := by
  unfold wd
  rw [List.getElem?_mapIdx, h]
  rfl
theorem wd_none {ad : Nat → Nat} {ty : Nat → ClassId} {f : Sf} {sh : List Sh} {k : Nat} (h : sh[k]? = none) : (wd ad ty f sh)[k]? = none := by
  unfold wd
  rw [List.getElem?_mapIdx, h]
  rfl
theorem wd_set {ad : Nat → Nat} {ty : Nat → ClassId} {f g : Sf} {sh : List Sh} {k : Nat} {s : Sh} (h : sh[k]? = some s) (hg : ∀ (j : Nat) (t : Sh), sh[j]? = some t → j ≠ k → cel ad ty g j t = cel ad ty f j t) : (wd ad ty f sh).set k (ad k, cel ad ty g k s) = wd ad ty g sh := by
  apply List.ext_getElem?
  intro j
  by_cases hj : k = j
  · subst hj
    have hlt : k < (wd ad ty f sh).length := (List.getElem?_eq_some_iff.mp (wd_get (f := f) (ad := ad) (ty := ty) h)).1
    rw [List.getElem?_set_self hlt, wd_get h]
  · rw [List.getElem?_set_ne hj]
    cases ht : sh[j]? with
    | none => rw [wd_none ht, wd_none ht]
    | some t => rw [wd_get ht, wd_get ht, hg j t ht (fun e => hj e.symm)]
def up (f : Sf) (k : Nat) (z v : Int) : Sf := fun k' => if k' = k then (fun z' => if z' = z then v else f k z') else f k'
theorem up_ne {f : Sf} {k j : Nat} {z v : Int} (h : j ≠ k) : up f k z v j = f j := by
  unfold up
  rw [if_neg h]
theorem up_eq (f : Sf) (k : Nat) (z v : Int) : up f k z v k = fun z' => if z' = z then v else f k z' := by
  unfold up
  rw [if_pos rfl]
theorem up_at (f : Sf) (k : Nat) (z v i : Int) : up f k z v k i = if i = z then v else f k i := by
  rw [up_eq]
theorem cel_up {ad : Nat → Nat} {ty : Nat → ClassId} {f : Sf} {k0 j : Nat} {z v : Int} {s : Sh} (hj : j ≠ k0) (h20 : j < 20) (ho : k0 < 20 ∨ ∀ o, s ≠ .inl o) : cel ad ty (up f k0 z v) j s = cel ad ty f j s := by
  cases s with
  | inl o =>
    have hk : k0 < 20 := ho.elim id (fun h => absurd rfl (h o))
    show Sum.inr (o.1, o.2.mapIdx (fun j c => fvl ad (up f k0 z v) j c)) = Sum.inr (o.1, o.2.mapIdx (fun j c => fvl ad f j c))
    have e : (fun j c => fvl ad (up f k0 z v) j c) = (fun j c => fvl ad f j c) := by
     funext i c
     match c with
     | 0 => show Value.int (zI (up f k0 z v (20 + i) 0)) = Value.int (zI (f (20 + i) 0)); rw [up_ne (by omega)]
     | 1 => show Value.long (zL (up f k0 z v (20 + i) 0)) = Value.long (zL (f (20 + i) 0)); rw [up_ne (by omega)]
     | n + 2 => rfl
    rw [e]
  | inr a =>
    show Sum.inl (ty a.1, a.2, Sum.inl (fun i : Nat => zI (up f k0 z v j (i : Int)))) = Sum.inl (ty a.1, a.2, Sum.inl (fun i : Nat => zI (f j (i : Int))))
    rw [up_ne hj]
theorem fvl_set {ad : Nat → Nat} {f : Sf} {fs : List Nat} {j c : Nat} {v : Int} {x : Value} (h : fs[j]? = some c) (hx : fvl ad (up f (20 + j) 0 v) j c = x) : (fs.mapIdx (fun j c => fvl ad f j c)).set j x = fs.mapIdx (fun i c => fvl ad (up f (20 + j) 0 v) i c) := by
  apply List.ext_getElem?
  intro i
  have hl : j < fs.length := (List.getElem?_eq_some_iff.mp h).1
  by_cases hi : j = i
  · subst hi
    rw [List.getElem?_set_self (by simpa using hl), List.getElem?_mapIdx, h, ← hx]
    rfl
  · rw [List.getElem?_set_ne hi, List.getElem?_mapIdx, List.getElem?_mapIdx]
    cases hc : fs[i]? with
    | none => rfl
    | some c' =>
      show some (fvl ad f i c') = some (fvl ad (up f (20 + j) 0 v) i c')
      match c' with
      | 0 => show some (Value.int (zI (f (20 + i) 0))) = some (Value.int (zI (up f (20 + j) 0 v (20 + i) 0))); rw [up_ne (by omega)]
      | 1 => show some (Value.long (zL (f (20 + i) 0))) = some (Value.long (zL (up f (20 + j) 0 v (20 + i) 0))); rw [up_ne (by omega)]
      | n + 2 => rfl
def cmb (per : Nat → Bool) (τ ζ : Sf) : Sf := fun k => if per k = true then τ k else ζ k
theorem cmb_P {per : Nat → Bool} {τ ζ : Sf} {k : Nat} (h : per k = true) : cmb per τ ζ k = τ k := by
  unfold cmb
  rw [if_pos h]
theorem cmb_S {per : Nat → Bool} {τ ζ : Sf} {k : Nat} (h : per k = false) : cmb per τ ζ k = ζ k := by
  unfold cmb
  rw [if_neg (by rw [h]; decide)]
theorem cmb_upP {per : Nat → Bool} {τ ζ : Sf} {k : Nat} {z v : Int} (h : per k = true) : cmb per (up τ k z v) ζ = up (cmb per τ ζ) k z v := by
  funext j
  by_cases hj : j = k
  · subst hj
    rw [cmb_P h, up_eq, up_eq, cmb_P h]
  · rw [up_ne hj]
    unfold cmb
    rw [up_ne hj]
theorem cmb_upS {per : Nat → Bool} {τ ζ : Sf} {k : Nat} {z v : Int} (h : per k = false) : cmb per τ (up ζ k z v) = up (cmb per τ ζ) k z v := by
  funext j
  by_cases hj : j = k
  · subst hj
    rw [cmb_S h, up_eq, up_eq, cmb_S h]
  · rw [up_ne hj]
    unfold cmb
    rw [up_ne hj]
/-- the launch, the kinds of cells, the places -/
abbrev Ev : Type := Launch × (Nat → ClassId) × (Nat → Nat → Nat) × ClassId × ClassId × (Nat → Nat)
/-- which cells persist, the shapes, are there boolean rows, the kind of the object, its fields, how many, its number -/
abbrev Gd : Type := (Nat → Bool) × List Sh × Bool × String × u_T × Nat × Nat
abbrev Mt : Type := MethodName × List Cond × ByteArray × Nat × Option FieldType
def eAd (E : Ev) : Nat → Nat := E.2.2.2.2.2
def eTy (E : Ev) : Nat → ClassId := fun t => match t with
  | 0 => E.2.2.2.1
  | _ => E.2.2.2.2.1
def eTs (E : Ev) (G : Gd) : List (ClassId × FieldType) := if G.2.2.1 = true then [(E.2.2.2.1, .int), (E.2.2.2.2.1, .boolean)] else [(E.2.2.2.1, .int)]
def eD (E : Ev) : va_G := (E.2.1, E.2.2.1)
def WD (E : Ev) (G : Gd) (τ ζ : Sf) : va_W := wd (eAd E) (eTy E) (cmb G.1 τ ζ) G.2.1
def AA (E : Ev) (G : Gd) : Nat → Prop := fun q => ∃ k : Nat, k < G.2.1.length ∧ q = eAd E k
def HW (E : Ev) (G : Gd) (τ ζ : Sf) (s : State) (H : Heap) : Prop := va_K (eD E) vwCl (eTs E G) s ∧ va_P (eD E) vwCl (WD E G τ ζ) H ∧ va_D (AA E G) (WD E G τ ζ)
def rmd (d : Nat) : Room := { frames := d, cells := 0, slots := 0, locals := 64 * d }
def QQ (E : Ev) (G : Gd) (Q : Option Value → Sf → Sf → Prop) : Array Value → State → Outcome → State → Prop := fun _ st oc t => (∃ (v : Option Value) (τ ζ : Sf), oc = .returned v ∧ Q v τ ζ ∧ HW E G τ ζ t t.heap) ∧ va_F (AA E G) st t
def Lh (ls : Array Slot) (nL : Nat) (L : List (Option Value)) : Prop := ls.size = nL ∧ lv_wf ls ∧ ∀ (i : Nat) (v : Value), L[i]? = some (some v) → ls[i]? = some (.val v)
def asL (L : List (Option Value)) : List (Nat × Value) := L.zipIdx.filterMap (fun q => q.1.map (fun v => (q.2, v)))
theorem asL_mem {L : List (Option Value)} {i : Nat} {v : Value} : (i, v) ∈ asL L ↔ L[i]? = some (some v) := by
  unfold asL
  rw [List.mem_filterMap]
  constructor
  · rintro ⟨⟨o, j⟩, h1, h2⟩
    cases o with
    | none => cases h2
    | some w =>
      cases h2
      exact List.mem_zipIdx_iff_getElem?.mp h1
  · intro h
    exact ⟨(some v, i), List.mem_zipIdx_iff_getElem?.mpr h, rfl⟩
theorem Lh.has {ls : Array Slot} {nL : Nat} {L : List (Option Value)} (h : Lh ls nL L) : lv_has ls nL (asL L) := ⟨h.1, h.2.1, fun q hq => h.2.2 q.1 q.2 (asL_mem.mp hq)⟩
def okS (i : Nat) (L : List (Option Value)) : Bool := match i with
  | 0 => true
  | j + 1 => match L[j]? with
    | some (some w) => w.category == 1
    | _ => true
theorem Lh.set1 {ls : Array Slot} {nL i : Nat} {L : List (Option Value)} {v : Value} (h : lv_has ls nL ((i, v) :: (asL L).filter (fun q => !(q.1 == i) && !(q.1 + 1 == i && q.2.category == 2)))) (ho : okS i L = true) : Lh ls nL (L.set i (some v)) := by
  refine ⟨h.1, h.2.1, fun j w hj => ?_⟩
  by_cases e : i = j
  · subst e
    have hlt : i < L.length := by
      have := (List.getElem?_eq_some_iff.mp hj).1
      simpa using this
    rw [List.getElem?_set_self hlt] at hj
    cases hj
    exact h.2.2 (i, v) List.mem_cons_self
  · rw [List.getElem?_set_ne e] at hj
    refine h.2.2 (j, w) (List.mem_cons_of_mem _ (List.mem_filter.mpr ⟨asL_mem.mpr hj, ?_⟩))
    have h1 : (j == i) = false := by simpa using fun q => e q.symm
    by_cases h2 : j + 1 = i
    · subst h2
      have h3 : (w.category == 1) = true := by
        unfold okS at ho
        simpa [hj] using ho
      have h4 : w.category = 1 := by simpa using h3
      simp [h4]
    · have h3 : (j + 1 == i) = false := by simpa using h2
      simp [h1, h3]
theorem Lh.set2 {ls : Array Slot} {nL i : Nat} {L : List (Option Value)} {v : Value} (h : lv_has ls nL ((i, v) :: (asL L).filter (fun q => !(q.1 == i) && (!(q.1 == i + 1) && !(q.1 + 1 == i && q.2.category == 2))))) (ho : okS i L = true) : Lh ls nL ((L.set i (some v)).set (i + 1) none) := by
  refine ⟨h.1, h.2.1, fun j w hj => ?_⟩
  by_cases e1 : i + 1 = j
  · subst e1
    by_cases hlt : i + 1 < (L.set i (some v)).length
    · rw [List.getElem?_set_self hlt] at hj
      cases hj
    · have := (List.getElem?_eq_some_iff.mp hj).1
      simp at this hlt
      omega
  · rw [List.getElem?_set_ne e1] at hj
    by_cases e : i = j
    · subst e
      have hlt : i < L.length := by
        have := (List.getElem?_eq_some_iff.mp hj).1
        simpa using this
      rw [List.getElem?_set_self hlt] at hj
      cases hj
      exact h.2.2 (i, v) List.mem_cons_self
    · rw [List.getElem?_set_ne e] at hj
      refine h.2.2 (j, w) (List.mem_cons_of_mem _ (List.mem_filter.mpr ⟨asL_mem.mpr hj, ?_⟩))
      have h1 : (j == i) = false := by simpa using fun q => e q.symm
      have h1' : (j == i + 1) = false := by simpa using fun q => e1 q.symm
      by_cases h2 : j + 1 = i
      · subst h2
        have h3 : (w.category == 1) = true := by
          unfold okS at ho
          simpa [hj] using ho
        have h4 : w.category = 1 := by simpa using h3
        simp [h4]
        omega
      · have h3 : (j + 1 == i) = false := by simpa using h2
        simp [h1, h1', h3]
def Cx (E : Ev) (G : Gd) (k : Mt) (L : List (Option Value)) (τ ζ : Sf) (p : Program) (s : State) (m : MethodId) (args : Array Value) (meth : Method) (c : Code) (H : Heap) (locs : List Loc) (ls : Array Slot) : Prop :=
  p.tables.exec = Jvm.exec ∧ c.code = k.2.2.1 ∧ c.maxLocals = k.2.2.2.1 ∧ meth.sig.returnType = k.2.2.2.2 ∧ meth.locks = false ∧ (∀ w ∈ k.2.1, w.before args s = true) ∧ s.vm.findClass k.1.cls = some m.cls ∧ HW E G τ ζ s H ∧ va_S (AA E G) s.heap H locs ∧ Lh ls k.2.2.2.1 L
/-- THE JUDGEMENT: from this place of the method, with these locals, this stack and these cells, the method comes to its end with Q -/
def R (E : Ev) (G : Gd) (k : Mt) (d pc : Nat) (L : List (Option Value)) (st : List Value) (τ ζ : Sf) (Q : Option Value → Sf → Sf → Prop) : Prop :=
  ∀ (p : Program) (e : Env) (s : State) (m : MethodId) (args : Array Value) (below : List Frame) (meth : Method) (c : Code) (H : Heap) (locs : List Loc) (ls : Array Slot), Cx E G k L τ ζ p s m args meth c H locs ls →
    W p E.1 e (rmd d) s m args below meth c H locs 0 0 (MQ below (QQ E G Q) args s 0 0 (AA E G)) (F0 m pc ls st)
/-- THE CONTRACT of a method, for these arguments and cells -/
def C (E : Ev) (G : Gd) (k : Mt) (d : Nat) (as : List Value) (τ ζ : Sf) (Q : Option Value → Sf → Sf → Prop) : Prop :=
  Met E.1 k.1 k.2.1 (rmd d) (va_Pc as (fun U => HW E G τ ζ U U.heap)) (QQ E G Q) 0 0 (AA E G)
/-- what kind the object is -/
def Gok (G : Gd) : Prop := vwCl[G.2.2.2.2.2.2]? = some (G.2.2.2.1, G.2.2.2.2.1, G.2.2.2.2.2.1) ∧ G.2.1.length ≤ 20 ∧ (∀ a, a < G.2.2.2.2.2.1 → ∀ b, b < G.2.2.2.2.2.1 → a ≠ b → (G.2.2.2.2.1 a).2.1 ≠ (G.2.2.2.2.1 b).2.1) ∧ (∀ j, j < G.2.2.2.2.2.1 → ∃ ty, parseFieldDescriptor (G.2.2.2.2.1 j).2.2.1 = some ty)
theorem Cx.ls' {E : Ev} {G : Gd} {k : Mt} {L L' : List (Option Value)} {τ ζ : Sf} {p : Program} {s : State} {m : MethodId} {args : Array Value} {meth : Method} {c : Code} {H : Heap} {locs : List Loc} {ls ls' : Array Slot} (X : Cx E G k L τ ζ p s m args meth c H locs ls) (h : Lh ls' k.2.2.2.1 L') : Cx E G k L' τ ζ p s m args meth c H locs ls' := by
  obtain ⟨x1, x2, x3, x4, x5, x6, x7, x8, x9, -⟩ := X
  exact ⟨x1, x2, x3, x4, x5, x6, x7, x8, x9, h⟩
theorem Cx.H' {E : Ev} {G : Gd} {k : Mt} {L : List (Option Value)} {τ ζ τ' ζ' : Sf} {p : Program} {s : State} {m : MethodId} {args : Array Value} {meth : Method} {c : Code} {H H' : Heap} {locs locs' : List Loc} {ls : Array Slot} (X : Cx E G k L τ ζ p s m args meth c H locs ls) (h : HW E G τ' ζ' s H') (hS : va_S (AA E G) s.heap H' locs') : Cx E G k L τ' ζ' p s m args meth c H' locs' ls := by
  obtain ⟨x1, x2, x3, x4, x5, x6, x7, x8, x9, x10⟩ := X
  exact ⟨x1, x2, x3, x4, x5, x6, x7, h, hS, x10⟩
theorem HW.moved {E : Ev} {G : Gd} {τ ζ : Sf} {u U : State} {H : Heap} (hvm : u.vm.Alike U.vm) (h : HW E G τ ζ u H) : HW E G τ ζ U H := ⟨va_K.moved hvm h.1, h.2⟩

/-! CALLS FROM A WALK, AND A WORLD MADE BY HAND -/
section WC
variable {E : Ev} {G : Gd} {as : List Value} {Q2 : Option Value → Sf → Sf → Prop} {p : Program} {e : Env} {RR : Room} {s : State} {m : MethodId} {args : Array Value} {below : List Frame} {meth : Method} {c : Code} {H : Heap} {locs : List Loc} {cells slots pc : Nat} {Qf : State → Prop} {ls : Array Slot} {st0 st : List Value} {A0 : Nat → Prop}
theorem W_call (hr : va_Run p E.1 e RR s m args below meth c H locs cells slots 0 0 (F0 m pc ls st0) st (QQ E G Q2 as.toArray) (AA E G)) (hS : va_S A0 s.heap H locs) (hA : ∀ q, AA E G q → A0 q)
    (kk : ∀ (v : Option Value) (τ' ζ' : Sf) (H1 : Heap) (locs1 : List Loc), Q2 v τ' ζ' → HW E G τ' ζ' s H1 → H.size ≤ H1.size → (∀ q : Nat, q < H.size → ¬ AA E G q → H1[q]? = H[q]?) → va_S A0 s.heap H1 locs1 → W p E.1 e RR s m args below meth c H1 locs1 cells slots Qf (F0 m (pc + 3) ls (v.toList ++ st))) : W p E.1 e RR s m args below meth c H locs cells slots Qf (F0 m pc ls st0) := by
  intro T hT XT
  obtain ⟨v, st₀, t, T', L', h0, X', hL, e1, e2, ⟨⟨v', τ', ζ', hv, hq, hb⟩, hz, hk⟩, hst⟩ := hr T hT XT
  cases hv
  rw [h0] at hz hk
  have hal : s.vm.Alike t.vm := by rw [← e2]; exact X'.warmed.alike
  have hH' : HW E G τ' ζ' s T'.heap := by
    rw [e1]
    exact ⟨va_K.moved hal.symm hb.1, hb.2⟩
  have hS' : va_S A0 s.heap T'.heap (locs ++ L') := ⟨Nat.le_trans hS.1 (by rw [e1]; exact hz), fun q h1 h2 => by rw [e1, hk q (Nat.lt_of_lt_of_le h1 hS.1) (fun z => h2 (hA q z))]; exact hS.2.1 q h1 h2, fun q hq => by
      rcases List.mem_append.mp hq with h | h
      · exact hS.2.2 q h
      · exact hA _ (hL q h)⟩
  obtain ⟨t2, a1, b1⟩ := kk v τ' ζ' T'.heap (locs ++ L') hq hH' (by rw [e1]; exact hz) (fun q h1 h2 => by rw [e1]; exact hk q h1 h2) hS' T' rfl X'
  exact ⟨t2, hst t2 a1, b1⟩
theorem W_callV {k2 : Mt} {own : String} {cc : ByteArray} {nL idx n d : Nat} {Ts : List Cond} {τ ζ : Sf} {fs : List Nat} (hx : p.tables.exec = Jvm.exec) (hb : c.code = cc) (hml : c.maxLocals = nL) (hown : s.vm.findClass own = some m.cls) (hts : ∀ w ∈ Ts, w.before args s = true) (hls : ls.size = nL) (hd : decode cc pc = .ok (.invokevirtual idx, 3)) (g : GoodIn Ts (wsV own idx k2.1.cls k2.1 k2.2.1)) (hk : Kok k2 n) (hn : as.length = n) (hci : vwCl[G.2.2.2.2.2.2]? = some (k2.1.cls, G.2.2.2.2.1, G.2.2.2.2.2.1)) (h0 : G.2.1[0]? = some (.inl (G.2.2.2.2.2.2, fs)))
    (hst : (st.map fun v => v.category).sum ≤ 8) (hR : d + 1 ≤ RR.frames ∧ 64 + 64 * d ≤ RR.locals) (hcs : cells ≤ RR.cells ∧ slots ≤ RR.slots) (hH : HW E G τ ζ s H) (hS : va_S A0 s.heap H locs) (hA : ∀ q, AA E G q → A0 q) (K : C E G k2 d (.ref (eAd E 0) :: as) τ ζ Q2)
    (kk : ∀ (v : Option Value) (τ' ζ' : Sf) (H1 : Heap) (locs1 : List Loc), Q2 v τ' ζ' → HW E G τ' ζ' s H1 → H.size ≤ H1.size → (∀ q : Nat, q < H.size → ¬ AA E G q → H1[q]? = H[q]?) → va_S A0 s.heap H1 locs1 → W p E.1 e RR s m args below meth c H1 locs1 cells slots Qf (F0 m (pc + 3) ls (v.toList ++ st))) : W p E.1 e RR s m args below meth c H locs cells slots Qf (F0 m pc ls (as.reverse ++ .ref (eAd E 0) :: st)) := by
  obtain ⟨⟨ws', hw⟩, hdn, h45⟩ := hk
  exact W_call (as := .ref (eAd E 0) :: as) (va_runV (As := as) (rest := st) ⟨hx, hb, hml, hown, hts⟩ K (cwV n hts g hw rfl rfl ⟨rfl, hdn⟩ ⟨hR.1, by show 8 + (k2.2.2.2.1 + 11) + 64 * d ≤ RR.locals; omega⟩) ⟨C_blind, va_recv hH.1 hH.2.1 hci (wd_get h0), fun U hU hW => ⟨rfl, va_K.moved hW.alike hH.1, by rw [hU]; exact hH.2.1, hH.2.2⟩⟩ rfl hn hls rfl (lv_room hst) hd hcs) hS hA kk
theorem W_callS {k2 : Mt} {own : String} {cc : ByteArray} {nL idx n d : Nat} {Ts : List Cond} {τ ζ : Sf} (hx : p.tables.exec = Jvm.exec) (hb : c.code = cc) (hml : c.maxLocals = nL) (hown : s.vm.findClass own = some m.cls) (hts : ∀ w ∈ Ts, w.before args s = true) (hls : ls.size = nL) (hd : decode cc pc = .ok (.invokestatic idx, 3)) (g : GoodIn Ts (va_wsS own idx k2.1 k2.2.1)) (hk : Kok k2 n) (hn : as.length = n)
    (hst : (st.map fun v => v.category).sum ≤ 8) (hR : d + 1 ≤ RR.frames ∧ 64 + 64 * d ≤ RR.locals) (hcs : cells ≤ RR.cells ∧ slots ≤ RR.slots) (hH : HW E G τ ζ s H) (hS : va_S A0 s.heap H locs) (hA : ∀ q, AA E G q → A0 q) (K : C E G k2 d as τ ζ Q2)
    (kk : ∀ (v : Option Value) (τ' ζ' : Sf) (H1 : Heap) (locs1 : List Loc), Q2 v τ' ζ' → HW E G τ' ζ' s H1 → H.size ≤ H1.size → (∀ q : Nat, q < H.size → ¬ AA E G q → H1[q]? = H[q]?) → va_S A0 s.heap H1 locs1 → W p E.1 e RR s m args below meth c H1 locs1 cells slots Qf (F0 m (pc + 3) ls (v.toList ++ st))) : W p E.1 e RR s m args below meth c H locs cells slots Qf (F0 m pc ls (as.reverse ++ st)) := by
  obtain ⟨⟨ws', hw⟩, hdn, h45⟩ := hk
  exact W_call (as := as) (va_runS (As := as) (rest := st) ⟨hx, hb, hml, hown, hts⟩ K (va_cwS n hts g hw rfl rfl hdn ⟨hR.1, by show 8 + (k2.2.2.2.1 + 11) + 64 * d ≤ RR.locals; omega⟩) ⟨C_blind, fun U hU hW => ⟨rfl, va_K.moved hW.alike hH.1, by rw [hU]; exact hH.2.1, hH.2.2⟩⟩ rfl hn hls rfl (lv_room hst) hd hcs) hS hA kk
theorem W_Q {l : Launch} {g : JFrame} (kk : ∀ Q' : State → Prop, Q' = Qf → W p l e RR s m args below meth c H locs cells slots Q' g) : W p l e RR s m args below meth c H locs cells slots Qf g := kk Qf rfl
end WC
theorem arr_same {D : va_G} {cl : List vw_C} {q n : Nat} {cA : ClassId} {f g : Nat → Int32} {H : Heap} (h : va_at D cl (q, .inl (cA, n, .inl f)) H) (hfg : ∀ j, j < n → f j = g j) : va_at D cl (q, .inl (cA, n, .inl g)) H := by
  have e : vp_cell cA (n, .inl g) = vp_cell cA (n, .inl f) := by
    show arrV cA n (fun j => .int (g j)) = arrV cA n (fun j => .int (f j))
    unfold arrV
    congr 1
    apply Array.ext
    · simp
    · intro i h1 h2
      simp only [Array.getElem_ofFn]
      rw [hfg i (by simpa using h1)]
  show H[q]? = some (vp_cell cA (n, .inl g))
  rw [e]
  exact h
theorem HW_of {E : Ev} {G : Gd} {τ ζ : Sf} {s : State} {H : Heap} (hK : va_K (eD E) vwCl (eTs E G) s) (hA : ∀ (k : Nat) (t : Sh), G.2.1[k]? = some t → va_at (eD E) vwCl (eAd E k, cel (eAd E) (eTy E) (cmb G.1 τ ζ) k t) H) (hi : ∀ i j, i < G.2.1.length → j < G.2.1.length → eAd E i = eAd E j → i = j) : HW E G τ ζ s H := by
  have key : ∀ (k : Nat) (q : Nat × va_E), (WD E G τ ζ)[k]? = some q → ∃ t, G.2.1[k]? = some t ∧ q = (eAd E k, cel (eAd E) (eTy E) (cmb G.1 τ ζ) k t) := by
    intro k q hq
    cases ht : G.2.1[k]? with
    | none =>
      rw [show (WD E G τ ζ)[k]? = none from wd_none ht] at hq
      cases hq
    | some t =>
      rw [show (WD E G τ ζ)[k]? = some (eAd E k, cel (eAd E) (eTy E) (cmb G.1 τ ζ) k t) from wd_get ht] at hq
      exact ⟨t, rfl, (Option.some.inj hq).symm⟩
  refine ⟨hK, fun k q hq => ?_, fun i j a b ha hb hab => ?_, fun k q hq => ?_⟩
  · obtain ⟨t, ht, rfl⟩ := key k q hq
    exact hA k t ht
  · obtain ⟨t, ht, rfl⟩ := key i a ha
    obtain ⟨u, hu, rfl⟩ := key j b hb
    exact hi i j (List.getElem?_eq_some_iff.mp ht).1 (List.getElem?_eq_some_iff.mp hu).1 hab
  · obtain ⟨t, ht, rfl⟩ := key k q hq
    exact ⟨k, (List.getElem?_eq_some_iff.mp ht).1, rfl⟩
/-- the addresses out of a list of cells -/
theorem ads_of {A : Nat → Prop} {ws : va_W} {h0 sz : Nat} {ad : Nat → Nat} (hD : va_D A ws) (hA : ∀ q, A q → q = h0 ∨ sz ≤ q) (hw : ∀ i, i < ws.length → ∃ e, ws[i]? = some (ad i, e)) (h00 : ad 0 = h0) (hl : 0 < ws.length) : (∀ i j, i < ws.length → j < ws.length → ad i = ad j → i = j) ∧ (∀ k, 1 ≤ k → k < ws.length → sz ≤ ad k) := by
  have h1 : ∀ i j, i < ws.length → j < ws.length → ad i = ad j → i = j := by
    intro i j hi hj h
    obtain ⟨e1, g1⟩ := hw i hi
    obtain ⟨e2, g2⟩ := hw j hj
    exact hD.1 i j _ _ g1 g2 h
  refine ⟨h1, fun k hk hkl => ?_⟩
  obtain ⟨e1, g1⟩ := hw k hkl
  rcases hA _ (hD.2 k _ g1) with h | h
  · have := h1 k 0 hkl hl (h.trans h00.symm)
    omega
  · exact h
def QI (h0 : Nat) (l : Launch) (dC : Nat → ClassId) (dI : Nat → Nat → Nat) (G : Gd) (τ0 : Sf) (sz : Nat) : Array Value → State → Outcome → State → Prop := fun _ st oc t => (∃ (cI cZ : ClassId) (ad : Nat → Nat) (ζ : Sf), oc = .returned none ∧ ad 0 = h0 ∧ (∀ k, 1 ≤ k → k < G.2.1.length → sz ≤ ad k) ∧ HW (l, dC, dI, cI, cZ, ad) G τ0 ζ t t.heap) ∧ va_F (fun q => q = h0 ∨ sz ≤ q) st t
/-- the states at the beginning -/
def xI : Sf := fun k i => match k with
  | 1 => if 0 ≤ i ∧ i < 210 then 0 else -1
  | 4 => if i = 0 then 1 else 10
  | 5 => if i = 0 then 1 else 0
  | 7 => if 0 ≤ i ∧ i < 12 then 0 else 10
  | 10 => if 0 ≤ i ∧ i < 10 then 0 else -1
  | 20 => if i = 0 then 1 else 0
  | 21 => if i = 0 then 1 else 0
  | _ => 0
def mI : Sf := fun k i => match k with
  | 1 => if 0 ≤ i ∧ i < 210 then 0 else -1
  | 4 => if i = 0 then 1 else 0
  | 6 => 10
  | 20 => if i = 0 then 1 else 0
  | 21 => if i = 0 then 1 else 0
  | 25 => 1
  | 26 => 10
  | _ => 0
def z0 : Sf := fun _ _ => 0
def x0 : Sf := fil (fil (fil (fil (fil (fil xI 7 0 12 10) 1 0 210 (-1)) 2 0 210 0) 3 0 70 0) 9 0 10 0) 10 0 10 (-1)
def m0 : Sf := beg mI
theorem inX0_init : ∀ w ∈ wsX00, w ∈ wsX0_init := fun _ h => List.mem_cons_of_mem _ (List.mem_append_right _ h)
set_option maxHeartbeats 4000000 in
set_option maxRecDepth 100000 in
theorem c_X0_init (l : Launch) (dC : Nat → ClassId) (dI : Nat → Nat → Nat) (h0 sz : Nat) : Met l yX0_init wsX0_init { frames := 8, cells := 14, slots := 620, locals := 600 } (va_Pc [.ref h0] (fun U => U.heap.size = sz ∧ va_P (dC, dI) vwCl [(h0, .inr (0, [.int 0, .int 0, .null, .null, .null, .null, .null, .null, .null, .null, .null, .null, .null, .null, .null, .null]))] U.heap ∧ va_K (dC, dI) vwCl [] U ∧ h0 < sz)) (QI h0 l dC dI GX x0 sz) 14 620 (fun q => q = h0 ∨ sz ≤ q) := by
  refine Met.ofW (cc := cX0_init) (maxL := 1) (ret := none) (by decide) rfl ?_
  intro p e s m args below meth c s₁ B hml hv
  obtain ⟨rfl, hsz, hP, hK, hlt⟩ := hv
  have hx := B.exec
  have hb := B.bytes
  have hr := B.returns
  have hts := atoms_spec (ws := wsX0_init) B.pre
  have hown : s.vm.findClass RX0 = some m.cls := findClass_of_methodNamed B.named
  have hlocks := B.notSynchronized
  have hin : meth.name = "<init>" := (name_of_methodNamed B.named B.method).1
  subst hsz
  unfold QI
  generalize hAe : (fun q => q = h0 ∨ s.heap.size ≤ q) = A
  have hA : ∀ q : Nat, s.heap.size ≤ q → A q := fun q h => by rw [← hAe]; exact Or.inr h
  have hS : va_S A s.heap s.heap [] := va_S.rf
  have hP : va_P (dC, dI) vwCl [(h0, .inr (0, [.int 0, .int 0, .null, .null, .null, .null, .null, .null, .null, .null, .null, .null, .null, .null, .null, .null]))] s.heap := hP
  have hD : va_D A [(h0, .inr (0, [.int 0, .int 0, .null, .null, .null, .null, .null, .null, .null, .null, .null, .null, .null, .null, .null, .null]))] := ⟨fun i j x y hx hy _ => by
    have h1 : i < 1 := (List.getElem?_eq_some_iff.mp hx).1
    have h2 : j < 1 := (List.getElem?_eq_some_iff.mp hy).1
    omega, fun k q hk => by
    have h1 : k < 1 := (List.getElem?_eq_some_iff.mp hk).1
    have h2 : k = 0 := by omega
    subst h2
    cases hk
    rw [← hAe]
    exact Or.inl rfl⟩
  have hl := lv_entry ([.ref h0]) (n := 1) (Nat.le_of_ble_eq_true rfl)
  rw [lg_entry_eq]
  generalize (lg_sl ([.ref h0]) ++ List.replicate (1 - (lg_sl ([.ref h0])).length) Slot.unset).toArray = ls at hl ⊢
  have hl : lv_has ls 1 [(0, .ref h0)] := hl
  refine lv_aload_n hx hb dX0_init_0 rfl (lv_at hl 0 rfl) ?_
  refine W.objInit hx hb hown (hts (.methodLink RX0 1 objectInit) (by decide +kernel)) (hts (.instanceMethod objectInit) (by decide +kernel)) (hts (.code objectInit ⟨#[0xb1]⟩ 1 none) (by decide +kernel)) rfl (by rw [hml]; exact hl.1) rfl dX0_init_1 (Nat.le_of_ble_eq_true rfl) (Nat.le_of_ble_eq_true rfl) ?_
  refine W.eq (g2 := F0 m 4 ls []) rfl ?_
  refine lv_aload_n hx hb dX0_init_4 rfl (lv_at hl 0 rfl) ?_
  refine lv_iconst (v := zI 1) hx hb dX0_init_5 (by decide) ?_
  refine va_put (D := (dC, dI)) (ci := 0) (v := .int (zI 1)) (ty := .int) (C := RX0) (T := TX0) (N := 16) hx hb hts inX0_init tyX0 tyX0_ok nmX0 hown hK hP hD hS 0 rfl rfl 0 (by decide) (hts (.fieldLink RX0 7 "PianoJury" "players" "I") (by decide +kernel)) (fun _ h9 => h9) rfl (by decide +kernel) rfl rfl (Nat.le_of_ble_eq_true rfl) dX0_init_6 (fun H locs hP hD hS => ?_)
  have hP : va_P (dC, dI) vwCl [(h0, .inr (0, [.int (zI 1), .int 0, .null, .null, .null, .null, .null, .null, .null, .null, .null, .null, .null, .null, .null, .null]))] H := hP
  have hD : va_D A [(h0, .inr (0, [.int (zI 1), .int 0, .null, .null, .null, .null, .null, .null, .null, .null, .null, .null, .null, .null, .null, .null]))] := hD
  refine lv_aload_n hx hb dX0_init_9 rfl (lv_at hl 0 rfl) ?_
  refine lv_iconst (v := zI 1) hx hb dX0_init_10 (by decide) ?_
  refine va_put (D := (dC, dI)) (ci := 0) (v := .int (zI 1)) (ty := .int) (C := RX0) (T := TX0) (N := 16) hx hb hts inX0_init tyX0 tyX0_ok nmX0 hown hK hP hD hS 0 rfl rfl 1 (by decide) (hts (.fieldLink RX0 13 "PianoJury" "jurors" "I") (by decide +kernel)) (fun _ h9 => h9) rfl (by decide +kernel) rfl rfl (Nat.le_of_ble_eq_true rfl) dX0_init_11 (fun H locs hP hD hS => ?_)
  have hP : va_P (dC, dI) vwCl [(h0, .inr (0, [.int (zI 1), .int (zI 1), .null, .null, .null, .null, .null, .null, .null, .null, .null, .null, .null, .null, .null, .null]))] H := hP
  have hD : va_D A [(h0, .inr (0, [.int (zI 1), .int (zI 1), .null, .null, .null, .null, .null, .null, .null, .null, .null, .null, .null, .null, .null, .null]))] := hD
  refine lv_aload_n hx hb dX0_init_14 rfl (lv_at hl 0 rfl) ?_
  refine lv_sipush (v := zI 210) hx hb dX0_init_15 (by decide) ?_
  refine va_newa (atype := .int) (a0 := (210, .inl (fun _ => 0))) (N' := 210) hx hb (hts (.arrayClass .int) (by decide +kernel)) rfl hK hP hD hS hA (fun _ => rfl) (by decide +kernel) (by decide +kernel) (Nat.le_of_ble_eq_true rfl) (Nat.le_of_ble_eq_true rfl) (Nat.le_of_ble_eq_true rfl) dX0_init_18 (fun q18 cA18 H hK hP hD hS => ?_)
  obtain ⟨cI, e18⟩ : ∃ y, y = cA18 := ⟨_, rfl⟩
  rw [← e18] at hK hP hD
  have hK : va_K (dC, dI) vwCl [(cI, .int)] s := hK
  have hP : va_P (dC, dI) vwCl [(h0, .inr (0, [.int (zI 1), .int (zI 1), .null, .null, .null, .null, .null, .null, .null, .null, .null, .null, .null, .null, .null, .null])), (q18, .inl (cI, 210, .inl (fun _ => 0)))] H := hP
  have hD : va_D A [(h0, .inr (0, [.int (zI 1), .int (zI 1), .null, .null, .null, .null, .null, .null, .null, .null, .null, .null, .null, .null, .null, .null])), (q18, .inl (cI, 210, .inl (fun _ => 0)))] := hD
  refine W.widen (k := 1) (n := 210) (by omega) (by omega) ?_
  refine va_putF (D := (dC, dI)) (ci := 0) (v := .ref q18) (ty := .array .int) (C := RX0) (T := TX0) (N := 16) hx hb hts inX0_init tyX0 tyX0_ok nmX0 hown hK hP hD hS 0 rfl rfl 2 (by decide) (hts (.fieldLink RX0 16 "PianoJury" "marks" "[I") (by decide +kernel)) (fun _ h9 => h9) rfl hin rfl (by decide +kernel) rfl rfl (Nat.le_of_ble_eq_true rfl) dX0_init_20 (fun H locs hP hD hS => ?_)
  have hP : va_P (dC, dI) vwCl [(h0, .inr (0, [.int (zI 1), .int (zI 1), .ref q18, .null, .null, .null, .null, .null, .null, .null, .null, .null, .null, .null, .null, .null])), (q18, .inl (cI, 210, .inl (fun _ => 0)))] H := hP
  have hD : va_D A [(h0, .inr (0, [.int (zI 1), .int (zI 1), .ref q18, .null, .null, .null, .null, .null, .null, .null, .null, .null, .null, .null, .null, .null])), (q18, .inl (cI, 210, .inl (fun _ => 0)))] := hD
  refine lv_aload_n hx hb dX0_init_23 rfl (lv_at hl 0 rfl) ?_
  refine lv_sipush (v := zI 210) hx hb dX0_init_24 (by decide) ?_
  refine va_newa (atype := .int) (a0 := (210, .inl (fun _ => 0))) (N' := 210) hx hb (hts (.arrayClass .int) (by decide +kernel)) rfl hK hP hD hS hA (fun _ => rfl) (by decide +kernel) (by decide +kernel) (Nat.le_of_ble_eq_true rfl) (Nat.le_of_ble_eq_true rfl) (Nat.le_of_ble_eq_true rfl) dX0_init_27 (fun q27 cA27 H hK hP hD hS => ?_)
  have e27 : cA27 = cI := Option.some.inj ((hK.2 1 (cA27, .int) rfl).2.symm.trans (hK.2 0 (cI, .int) rfl).2)
  rw [e27] at hK hP hD
  have hK : va_K (dC, dI) vwCl [(cI, .int)] s := hK.sub [0] rfl
  have hP : va_P (dC, dI) vwCl [(h0, .inr (0, [.int (zI 1), .int (zI 1), .ref q18, .null, .null, .null, .null, .null, .null, .null, .null, .null, .null, .null, .null, .null])), (q18, .inl (cI, 210, .inl (fun _ => 0))), (q27, .inl (cI, 210, .inl (fun _ => 0)))] H := hP
  have hD : va_D A [(h0, .inr (0, [.int (zI 1), .int (zI 1), .ref q18, .null, .null, .null, .null, .null, .null, .null, .null, .null, .null, .null, .null, .null])), (q18, .inl (cI, 210, .inl (fun _ => 0))), (q27, .inl (cI, 210, .inl (fun _ => 0)))] := hD
  refine W.widen (k := 2) (n := 420) (by omega) (by omega) ?_
  refine va_putF (D := (dC, dI)) (ci := 0) (v := .ref q27) (ty := .array .int) (C := RX0) (T := TX0) (N := 16) hx hb hts inX0_init tyX0 tyX0_ok nmX0 hown hK hP hD hS 0 rfl rfl 3 (by decide) (hts (.fieldLink RX0 20 "PianoJury" "yeses" "[I") (by decide +kernel)) (fun _ h9 => h9) rfl hin rfl (by decide +kernel) rfl rfl (Nat.le_of_ble_eq_true rfl) dX0_init_29 (fun H locs hP hD hS => ?_)
  have hP : va_P (dC, dI) vwCl [(h0, .inr (0, [.int (zI 1), .int (zI 1), .ref q18, .ref q27, .null, .null, .null, .null, .null, .null, .null, .null, .null, .null, .null, .null])), (q18, .inl (cI, 210, .inl (fun _ => 0))), (q27, .inl (cI, 210, .inl (fun _ => 0)))] H := hP
  have hD : va_D A [(h0, .inr (0, [.int (zI 1), .int (zI 1), .ref q18, .ref q27, .null, .null, .null, .null, .null, .null, .null, .null, .null, .null, .null, .null])), (q18, .inl (cI, 210, .inl (fun _ => 0))), (q27, .inl (cI, 210, .inl (fun _ => 0)))] := hD
  refine lv_aload_n hx hb dX0_init_32 rfl (lv_at hl 0 rfl) ?_
  refine lv_bipush (v := zI 70) hx hb dX0_init_33 (by decide) ?_
  refine va_newa (atype := .int) (a0 := (70, .inl (fun _ => 0))) (N' := 70) hx hb (hts (.arrayClass .int) (by decide +kernel)) rfl hK hP hD hS hA (fun _ => rfl) (by decide +kernel) (by decide +kernel) (Nat.le_of_ble_eq_true rfl) (Nat.le_of_ble_eq_true rfl) (Nat.le_of_ble_eq_true rfl) dX0_init_35 (fun q35 cA35 H hK hP hD hS => ?_)
  have e35 : cA35 = cI := Option.some.inj ((hK.2 1 (cA35, .int) rfl).2.symm.trans (hK.2 0 (cI, .int) rfl).2)
  rw [e35] at hK hP hD
  have hK : va_K (dC, dI) vwCl [(cI, .int)] s := hK.sub [0] rfl
  have hP : va_P (dC, dI) vwCl [(h0, .inr (0, [.int (zI 1), .int (zI 1), .ref q18, .ref q27, .null, .null, .null, .null, .null, .null, .null, .null, .null, .null, .null, .null])), (q18, .inl (cI, 210, .inl (fun _ => 0))), (q27, .inl (cI, 210, .inl (fun _ => 0))), (q35, .inl (cI, 70, .inl (fun _ => 0)))] H := hP
  have hD : va_D A [(h0, .inr (0, [.int (zI 1), .int (zI 1), .ref q18, .ref q27, .null, .null, .null, .null, .null, .null, .null, .null, .null, .null, .null, .null])), (q18, .inl (cI, 210, .inl (fun _ => 0))), (q27, .inl (cI, 210, .inl (fun _ => 0))), (q35, .inl (cI, 70, .inl (fun _ => 0)))] := hD
  refine W.widen (k := 3) (n := 490) (by omega) (by omega) ?_
  refine va_putF (D := (dC, dI)) (ci := 0) (v := .ref q35) (ty := .array .int) (C := RX0) (T := TX0) (N := 16) hx hb hts inX0_init tyX0 tyX0_ok nmX0 hown hK hP hD hS 0 rfl rfl 4 (by decide) (hts (.fieldLink RX0 23 "PianoJury" "pupils" "[I") (by decide +kernel)) (fun _ h9 => h9) rfl hin rfl (by decide +kernel) rfl rfl (Nat.le_of_ble_eq_true rfl) dX0_init_37 (fun H locs hP hD hS => ?_)
  have hP : va_P (dC, dI) vwCl [(h0, .inr (0, [.int (zI 1), .int (zI 1), .ref q18, .ref q27, .ref q35, .null, .null, .null, .null, .null, .null, .null, .null, .null, .null, .null])), (q18, .inl (cI, 210, .inl (fun _ => 0))), (q27, .inl (cI, 210, .inl (fun _ => 0))), (q35, .inl (cI, 70, .inl (fun _ => 0)))] H := hP
  have hD : va_D A [(h0, .inr (0, [.int (zI 1), .int (zI 1), .ref q18, .ref q27, .ref q35, .null, .null, .null, .null, .null, .null, .null, .null, .null, .null, .null])), (q18, .inl (cI, 210, .inl (fun _ => 0))), (q27, .inl (cI, 210, .inl (fun _ => 0))), (q35, .inl (cI, 70, .inl (fun _ => 0)))] := hD
  refine lv_aload_n hx hb dX0_init_40 rfl (lv_at hl 0 rfl) ?_
  refine lv_iconst (v := zI 2) hx hb dX0_init_41 (by decide) ?_
  refine va_newa (atype := .int) (a0 := (2, .inl (fun _ => 0))) (N' := 2) hx hb (hts (.arrayClass .int) (by decide +kernel)) rfl hK hP hD hS hA (fun _ => rfl) (by decide +kernel) (by decide +kernel) (Nat.le_of_ble_eq_true rfl) (Nat.le_of_ble_eq_true rfl) (Nat.le_of_ble_eq_true rfl) dX0_init_42 (fun q42 cA42 H hK hP hD hS => ?_)
  have e42 : cA42 = cI := Option.some.inj ((hK.2 1 (cA42, .int) rfl).2.symm.trans (hK.2 0 (cI, .int) rfl).2)
  rw [e42] at hK hP hD
  have hK : va_K (dC, dI) vwCl [(cI, .int)] s := hK.sub [0] rfl
  have hP : va_P (dC, dI) vwCl [(h0, .inr (0, [.int (zI 1), .int (zI 1), .ref q18, .ref q27, .ref q35, .null, .null, .null, .null, .null, .null, .null, .null, .null, .null, .null])), (q18, .inl (cI, 210, .inl (fun _ => 0))), (q27, .inl (cI, 210, .inl (fun _ => 0))), (q35, .inl (cI, 70, .inl (fun _ => 0))), (q42, .inl (cI, 2, .inl (fun _ => 0)))] H := hP
  have hD : va_D A [(h0, .inr (0, [.int (zI 1), .int (zI 1), .ref q18, .ref q27, .ref q35, .null, .null, .null, .null, .null, .null, .null, .null, .null, .null, .null])), (q18, .inl (cI, 210, .inl (fun _ => 0))), (q27, .inl (cI, 210, .inl (fun _ => 0))), (q35, .inl (cI, 70, .inl (fun _ => 0))), (q42, .inl (cI, 2, .inl (fun _ => 0)))] := hD
  refine W.widen (k := 4) (n := 492) (by omega) (by omega) ?_
  refine lv_dup hx hb dX0_init_44 rfl ?_
  refine lv_iconst (v := zI 0) hx hb dX0_init_45 (by decide) ?_
  refine lv_iconst (v := zI 1) hx hb dX0_init_46 (by decide) ?_
  refine va_iast hx hb hK hP hD hS 4 0 rfl rfl (i := zI 0) (x := zI 1) (zI_in (by omega) (by omega)) dX0_init_47 (fun H locs hP hD hS => ?_)
  have hP : va_P (dC, dI) vwCl [(h0, .inr (0, [.int (zI 1), .int (zI 1), .ref q18, .ref q27, .ref q35, .null, .null, .null, .null, .null, .null, .null, .null, .null, .null, .null])), (q18, .inl (cI, 210, .inl (fun _ => 0))), (q27, .inl (cI, 210, .inl (fun _ => 0))), (q35, .inl (cI, 70, .inl (fun _ => 0))), (q42, .inl (cI, 2, .inl (upd (fun _ => 0) (zI 0).toNatClampNeg (zI 1))))] H := hP
  have hD : va_D A [(h0, .inr (0, [.int (zI 1), .int (zI 1), .ref q18, .ref q27, .ref q35, .null, .null, .null, .null, .null, .null, .null, .null, .null, .null, .null])), (q18, .inl (cI, 210, .inl (fun _ => 0))), (q27, .inl (cI, 210, .inl (fun _ => 0))), (q35, .inl (cI, 70, .inl (fun _ => 0))), (q42, .inl (cI, 2, .inl (upd (fun _ => 0) (zI 0).toNatClampNeg (zI 1))))] := hD
  refine lv_dup hx hb dX0_init_48 rfl ?_
  refine lv_iconst (v := zI 1) hx hb dX0_init_49 (by decide) ?_
  refine lv_bipush (v := zI 10) hx hb dX0_init_50 (by decide) ?_
  refine va_iast hx hb hK hP hD hS 4 0 rfl rfl (i := zI 1) (x := zI 10) (zI_in (by omega) (by omega)) dX0_init_52 (fun H locs hP hD hS => ?_)
  have hP : va_P (dC, dI) vwCl [(h0, .inr (0, [.int (zI 1), .int (zI 1), .ref q18, .ref q27, .ref q35, .null, .null, .null, .null, .null, .null, .null, .null, .null, .null, .null])), (q18, .inl (cI, 210, .inl (fun _ => 0))), (q27, .inl (cI, 210, .inl (fun _ => 0))), (q35, .inl (cI, 70, .inl (fun _ => 0))), (q42, .inl (cI, 2, .inl (upd (upd (fun _ => 0) (zI 0).toNatClampNeg (zI 1)) (zI 1).toNatClampNeg (zI 10))))] H := hP
  have hD : va_D A [(h0, .inr (0, [.int (zI 1), .int (zI 1), .ref q18, .ref q27, .ref q35, .null, .null, .null, .null, .null, .null, .null, .null, .null, .null, .null])), (q18, .inl (cI, 210, .inl (fun _ => 0))), (q27, .inl (cI, 210, .inl (fun _ => 0))), (q35, .inl (cI, 70, .inl (fun _ => 0))), (q42, .inl (cI, 2, .inl (upd (upd (fun _ => 0) (zI 0).toNatClampNeg (zI 1)) (zI 1).toNatClampNeg (zI 10))))] := hD
  refine va_putF (D := (dC, dI)) (ci := 0) (v := .ref q42) (ty := .array .int) (C := RX0) (T := TX0) (N := 16) hx hb hts inX0_init tyX0 tyX0_ok nmX0 hown hK hP hD hS 0 rfl rfl 5 (by decide) (hts (.fieldLink RX0 26 "PianoJury" "rules" "[I") (by decide +kernel)) (fun _ h9 => h9) rfl hin rfl (by decide +kernel) rfl rfl (Nat.le_of_ble_eq_true rfl) dX0_init_53 (fun H locs hP hD hS => ?_)
  have hP : va_P (dC, dI) vwCl [(h0, .inr (0, [.int (zI 1), .int (zI 1), .ref q18, .ref q27, .ref q35, .ref q42, .null, .null, .null, .null, .null, .null, .null, .null, .null, .null])), (q18, .inl (cI, 210, .inl (fun _ => 0))), (q27, .inl (cI, 210, .inl (fun _ => 0))), (q35, .inl (cI, 70, .inl (fun _ => 0))), (q42, .inl (cI, 2, .inl (upd (upd (fun _ => 0) (zI 0).toNatClampNeg (zI 1)) (zI 1).toNatClampNeg (zI 10))))] H := hP
  have hD : va_D A [(h0, .inr (0, [.int (zI 1), .int (zI 1), .ref q18, .ref q27, .ref q35, .ref q42, .null, .null, .null, .null, .null, .null, .null, .null, .null, .null])), (q18, .inl (cI, 210, .inl (fun _ => 0))), (q27, .inl (cI, 210, .inl (fun _ => 0))), (q35, .inl (cI, 70, .inl (fun _ => 0))), (q42, .inl (cI, 2, .inl (upd (upd (fun _ => 0) (zI 0).toNatClampNeg (zI 1)) (zI 1).toNatClampNeg (zI 10))))] := hD
  refine lv_aload_n hx hb dX0_init_56 rfl (lv_at hl 0 rfl) ?_
  refine lv_iconst (v := zI 3) hx hb dX0_init_57 (by decide) ?_
  refine va_newa (atype := .int) (a0 := (3, .inl (fun _ => 0))) (N' := 3) hx hb (hts (.arrayClass .int) (by decide +kernel)) rfl hK hP hD hS hA (fun _ => rfl) (by decide +kernel) (by decide +kernel) (Nat.le_of_ble_eq_true rfl) (Nat.le_of_ble_eq_true rfl) (Nat.le_of_ble_eq_true rfl) dX0_init_58 (fun q58 cA58 H hK hP hD hS => ?_)
  have e58 : cA58 = cI := Option.some.inj ((hK.2 1 (cA58, .int) rfl).2.symm.trans (hK.2 0 (cI, .int) rfl).2)
  rw [e58] at hK hP hD
  have hK : va_K (dC, dI) vwCl [(cI, .int)] s := hK.sub [0] rfl
  have hP : va_P (dC, dI) vwCl [(h0, .inr (0, [.int (zI 1), .int (zI 1), .ref q18, .ref q27, .ref q35, .ref q42, .null, .null, .null, .null, .null, .null, .null, .null, .null, .null])), (q18, .inl (cI, 210, .inl (fun _ => 0))), (q27, .inl (cI, 210, .inl (fun _ => 0))), (q35, .inl (cI, 70, .inl (fun _ => 0))), (q42, .inl (cI, 2, .inl (upd (upd (fun _ => 0) (zI 0).toNatClampNeg (zI 1)) (zI 1).toNatClampNeg (zI 10)))), (q58, .inl (cI, 3, .inl (fun _ => 0)))] H := hP
  have hD : va_D A [(h0, .inr (0, [.int (zI 1), .int (zI 1), .ref q18, .ref q27, .ref q35, .ref q42, .null, .null, .null, .null, .null, .null, .null, .null, .null, .null])), (q18, .inl (cI, 210, .inl (fun _ => 0))), (q27, .inl (cI, 210, .inl (fun _ => 0))), (q35, .inl (cI, 70, .inl (fun _ => 0))), (q42, .inl (cI, 2, .inl (upd (upd (fun _ => 0) (zI 0).toNatClampNeg (zI 1)) (zI 1).toNatClampNeg (zI 10)))), (q58, .inl (cI, 3, .inl (fun _ => 0)))] := hD
  refine W.widen (k := 5) (n := 495) (by omega) (by omega) ?_
  refine lv_dup hx hb dX0_init_60 rfl ?_
  refine lv_iconst (v := zI 0) hx hb dX0_init_61 (by decide) ?_
  refine lv_iconst (v := zI 1) hx hb dX0_init_62 (by decide) ?_
  refine va_iast hx hb hK hP hD hS 5 0 rfl rfl (i := zI 0) (x := zI 1) (zI_in (by omega) (by omega)) dX0_init_63 (fun H locs hP hD hS => ?_)
  have hP : va_P (dC, dI) vwCl [(h0, .inr (0, [.int (zI 1), .int (zI 1), .ref q18, .ref q27, .ref q35, .ref q42, .null, .null, .null, .null, .null, .null, .null, .null, .null, .null])), (q18, .inl (cI, 210, .inl (fun _ => 0))), (q27, .inl (cI, 210, .inl (fun _ => 0))), (q35, .inl (cI, 70, .inl (fun _ => 0))), (q42, .inl (cI, 2, .inl (upd (upd (fun _ => 0) (zI 0).toNatClampNeg (zI 1)) (zI 1).toNatClampNeg (zI 10)))), (q58, .inl (cI, 3, .inl (upd (fun _ => 0) (zI 0).toNatClampNeg (zI 1))))] H := hP
  have hD : va_D A [(h0, .inr (0, [.int (zI 1), .int (zI 1), .ref q18, .ref q27, .ref q35, .ref q42, .null, .null, .null, .null, .null, .null, .null, .null, .null, .null])), (q18, .inl (cI, 210, .inl (fun _ => 0))), (q27, .inl (cI, 210, .inl (fun _ => 0))), (q35, .inl (cI, 70, .inl (fun _ => 0))), (q42, .inl (cI, 2, .inl (upd (upd (fun _ => 0) (zI 0).toNatClampNeg (zI 1)) (zI 1).toNatClampNeg (zI 10)))), (q58, .inl (cI, 3, .inl (upd (fun _ => 0) (zI 0).toNatClampNeg (zI 1))))] := hD
  refine lv_dup hx hb dX0_init_64 rfl ?_
  refine lv_iconst (v := zI 1) hx hb dX0_init_65 (by decide) ?_
  refine lv_iconst (v := zI 0) hx hb dX0_init_66 (by decide) ?_
  refine va_iast hx hb hK hP hD hS 5 0 rfl rfl (i := zI 1) (x := zI 0) (zI_in (by omega) (by omega)) dX0_init_67 (fun H locs hP hD hS => ?_)
  have hP : va_P (dC, dI) vwCl [(h0, .inr (0, [.int (zI 1), .int (zI 1), .ref q18, .ref q27, .ref q35, .ref q42, .null, .null, .null, .null, .null, .null, .null, .null, .null, .null])), (q18, .inl (cI, 210, .inl (fun _ => 0))), (q27, .inl (cI, 210, .inl (fun _ => 0))), (q35, .inl (cI, 70, .inl (fun _ => 0))), (q42, .inl (cI, 2, .inl (upd (upd (fun _ => 0) (zI 0).toNatClampNeg (zI 1)) (zI 1).toNatClampNeg (zI 10)))), (q58, .inl (cI, 3, .inl (upd (upd (fun _ => 0) (zI 0).toNatClampNeg (zI 1)) (zI 1).toNatClampNeg (zI 0))))] H := hP
  have hD : va_D A [(h0, .inr (0, [.int (zI 1), .int (zI 1), .ref q18, .ref q27, .ref q35, .ref q42, .null, .null, .null, .null, .null, .null, .null, .null, .null, .null])), (q18, .inl (cI, 210, .inl (fun _ => 0))), (q27, .inl (cI, 210, .inl (fun _ => 0))), (q35, .inl (cI, 70, .inl (fun _ => 0))), (q42, .inl (cI, 2, .inl (upd (upd (fun _ => 0) (zI 0).toNatClampNeg (zI 1)) (zI 1).toNatClampNeg (zI 10)))), (q58, .inl (cI, 3, .inl (upd (upd (fun _ => 0) (zI 0).toNatClampNeg (zI 1)) (zI 1).toNatClampNeg (zI 0))))] := hD
  refine lv_dup hx hb dX0_init_68 rfl ?_
  refine lv_iconst (v := zI 2) hx hb dX0_init_69 (by decide) ?_
  refine lv_iconst (v := zI 0) hx hb dX0_init_70 (by decide) ?_
  refine va_iast hx hb hK hP hD hS 5 0 rfl rfl (i := zI 2) (x := zI 0) (zI_in (by omega) (by omega)) dX0_init_71 (fun H locs hP hD hS => ?_)
  have hP : va_P (dC, dI) vwCl [(h0, .inr (0, [.int (zI 1), .int (zI 1), .ref q18, .ref q27, .ref q35, .ref q42, .null, .null, .null, .null, .null, .null, .null, .null, .null, .null])), (q18, .inl (cI, 210, .inl (fun _ => 0))), (q27, .inl (cI, 210, .inl (fun _ => 0))), (q35, .inl (cI, 70, .inl (fun _ => 0))), (q42, .inl (cI, 2, .inl (upd (upd (fun _ => 0) (zI 0).toNatClampNeg (zI 1)) (zI 1).toNatClampNeg (zI 10)))), (q58, .inl (cI, 3, .inl (upd (upd (upd (fun _ => 0) (zI 0).toNatClampNeg (zI 1)) (zI 1).toNatClampNeg (zI 0)) (zI 2).toNatClampNeg (zI 0))))] H := hP
  have hD : va_D A [(h0, .inr (0, [.int (zI 1), .int (zI 1), .ref q18, .ref q27, .ref q35, .ref q42, .null, .null, .null, .null, .null, .null, .null, .null, .null, .null])), (q18, .inl (cI, 210, .inl (fun _ => 0))), (q27, .inl (cI, 210, .inl (fun _ => 0))), (q35, .inl (cI, 70, .inl (fun _ => 0))), (q42, .inl (cI, 2, .inl (upd (upd (fun _ => 0) (zI 0).toNatClampNeg (zI 1)) (zI 1).toNatClampNeg (zI 10)))), (q58, .inl (cI, 3, .inl (upd (upd (upd (fun _ => 0) (zI 0).toNatClampNeg (zI 1)) (zI 1).toNatClampNeg (zI 0)) (zI 2).toNatClampNeg (zI 0))))] := hD
  refine va_putF (D := (dC, dI)) (ci := 0) (v := .ref q58) (ty := .array .int) (C := RX0) (T := TX0) (N := 16) hx hb hts inX0_init tyX0 tyX0_ok nmX0 hown hK hP hD hS 0 rfl rfl 6 (by decide) (hts (.fieldLink RX0 29 "PianoJury" "weights" "[I") (by decide +kernel)) (fun _ h9 => h9) rfl hin rfl (by decide +kernel) rfl rfl (Nat.le_of_ble_eq_true rfl) dX0_init_72 (fun H locs hP hD hS => ?_)
  have hP : va_P (dC, dI) vwCl [(h0, .inr (0, [.int (zI 1), .int (zI 1), .ref q18, .ref q27, .ref q35, .ref q42, .ref q58, .null, .null, .null, .null, .null, .null, .null, .null, .null])), (q18, .inl (cI, 210, .inl (fun _ => 0))), (q27, .inl (cI, 210, .inl (fun _ => 0))), (q35, .inl (cI, 70, .inl (fun _ => 0))), (q42, .inl (cI, 2, .inl (upd (upd (fun _ => 0) (zI 0).toNatClampNeg (zI 1)) (zI 1).toNatClampNeg (zI 10)))), (q58, .inl (cI, 3, .inl (upd (upd (upd (fun _ => 0) (zI 0).toNatClampNeg (zI 1)) (zI 1).toNatClampNeg (zI 0)) (zI 2).toNatClampNeg (zI 0))))] H := hP
  have hD : va_D A [(h0, .inr (0, [.int (zI 1), .int (zI 1), .ref q18, .ref q27, .ref q35, .ref q42, .ref q58, .null, .null, .null, .null, .null, .null, .null, .null, .null])), (q18, .inl (cI, 210, .inl (fun _ => 0))), (q27, .inl (cI, 210, .inl (fun _ => 0))), (q35, .inl (cI, 70, .inl (fun _ => 0))), (q42, .inl (cI, 2, .inl (upd (upd (fun _ => 0) (zI 0).toNatClampNeg (zI 1)) (zI 1).toNatClampNeg (zI 10)))), (q58, .inl (cI, 3, .inl (upd (upd (upd (fun _ => 0) (zI 0).toNatClampNeg (zI 1)) (zI 1).toNatClampNeg (zI 0)) (zI 2).toNatClampNeg (zI 0))))] := hD
  refine lv_aload_n hx hb dX0_init_75 rfl (lv_at hl 0 rfl) ?_
  refine lv_bipush (v := zI 6) hx hb dX0_init_76 (by decide) ?_
  refine va_newa (atype := .int) (a0 := (6, .inl (fun _ => 0))) (N' := 6) hx hb (hts (.arrayClass .int) (by decide +kernel)) rfl hK hP hD hS hA (fun _ => rfl) (by decide +kernel) (by decide +kernel) (Nat.le_of_ble_eq_true rfl) (Nat.le_of_ble_eq_true rfl) (Nat.le_of_ble_eq_true rfl) dX0_init_78 (fun q78 cA78 H hK hP hD hS => ?_)
  have e78 : cA78 = cI := Option.some.inj ((hK.2 1 (cA78, .int) rfl).2.symm.trans (hK.2 0 (cI, .int) rfl).2)
  rw [e78] at hK hP hD
  have hK : va_K (dC, dI) vwCl [(cI, .int)] s := hK.sub [0] rfl
  have hP : va_P (dC, dI) vwCl [(h0, .inr (0, [.int (zI 1), .int (zI 1), .ref q18, .ref q27, .ref q35, .ref q42, .ref q58, .null, .null, .null, .null, .null, .null, .null, .null, .null])), (q18, .inl (cI, 210, .inl (fun _ => 0))), (q27, .inl (cI, 210, .inl (fun _ => 0))), (q35, .inl (cI, 70, .inl (fun _ => 0))), (q42, .inl (cI, 2, .inl (upd (upd (fun _ => 0) (zI 0).toNatClampNeg (zI 1)) (zI 1).toNatClampNeg (zI 10)))), (q58, .inl (cI, 3, .inl (upd (upd (upd (fun _ => 0) (zI 0).toNatClampNeg (zI 1)) (zI 1).toNatClampNeg (zI 0)) (zI 2).toNatClampNeg (zI 0)))), (q78, .inl (cI, 6, .inl (fun _ => 0)))] H := hP
  have hD : va_D A [(h0, .inr (0, [.int (zI 1), .int (zI 1), .ref q18, .ref q27, .ref q35, .ref q42, .ref q58, .null, .null, .null, .null, .null, .null, .null, .null, .null])), (q18, .inl (cI, 210, .inl (fun _ => 0))), (q27, .inl (cI, 210, .inl (fun _ => 0))), (q35, .inl (cI, 70, .inl (fun _ => 0))), (q42, .inl (cI, 2, .inl (upd (upd (fun _ => 0) (zI 0).toNatClampNeg (zI 1)) (zI 1).toNatClampNeg (zI 10)))), (q58, .inl (cI, 3, .inl (upd (upd (upd (fun _ => 0) (zI 0).toNatClampNeg (zI 1)) (zI 1).toNatClampNeg (zI 0)) (zI 2).toNatClampNeg (zI 0)))), (q78, .inl (cI, 6, .inl (fun _ => 0)))] := hD
  refine W.widen (k := 6) (n := 501) (by omega) (by omega) ?_
  refine va_putF (D := (dC, dI)) (ci := 0) (v := .ref q78) (ty := .array .int) (C := RX0) (T := TX0) (N := 16) hx hb hts inX0_init tyX0 tyX0_ok nmX0 hown hK hP hD hS 0 rfl rfl 7 (by decide) (hts (.fieldLink RX0 32 "PianoJury" "prizes" "[I") (by decide +kernel)) (fun _ h9 => h9) rfl hin rfl (by decide +kernel) rfl rfl (Nat.le_of_ble_eq_true rfl) dX0_init_80 (fun H locs hP hD hS => ?_)
  have hP : va_P (dC, dI) vwCl [(h0, .inr (0, [.int (zI 1), .int (zI 1), .ref q18, .ref q27, .ref q35, .ref q42, .ref q58, .ref q78, .null, .null, .null, .null, .null, .null, .null, .null])), (q18, .inl (cI, 210, .inl (fun _ => 0))), (q27, .inl (cI, 210, .inl (fun _ => 0))), (q35, .inl (cI, 70, .inl (fun _ => 0))), (q42, .inl (cI, 2, .inl (upd (upd (fun _ => 0) (zI 0).toNatClampNeg (zI 1)) (zI 1).toNatClampNeg (zI 10)))), (q58, .inl (cI, 3, .inl (upd (upd (upd (fun _ => 0) (zI 0).toNatClampNeg (zI 1)) (zI 1).toNatClampNeg (zI 0)) (zI 2).toNatClampNeg (zI 0)))), (q78, .inl (cI, 6, .inl (fun _ => 0)))] H := hP
  have hD : va_D A [(h0, .inr (0, [.int (zI 1), .int (zI 1), .ref q18, .ref q27, .ref q35, .ref q42, .ref q58, .ref q78, .null, .null, .null, .null, .null, .null, .null, .null])), (q18, .inl (cI, 210, .inl (fun _ => 0))), (q27, .inl (cI, 210, .inl (fun _ => 0))), (q35, .inl (cI, 70, .inl (fun _ => 0))), (q42, .inl (cI, 2, .inl (upd (upd (fun _ => 0) (zI 0).toNatClampNeg (zI 1)) (zI 1).toNatClampNeg (zI 10)))), (q58, .inl (cI, 3, .inl (upd (upd (upd (fun _ => 0) (zI 0).toNatClampNeg (zI 1)) (zI 1).toNatClampNeg (zI 0)) (zI 2).toNatClampNeg (zI 0)))), (q78, .inl (cI, 6, .inl (fun _ => 0)))] := hD
  refine lv_aload_n hx hb dX0_init_83 rfl (lv_at hl 0 rfl) ?_
  refine lv_bipush (v := zI 12) hx hb dX0_init_84 (by decide) ?_
  refine va_newa (atype := .int) (a0 := (12, .inl (fun _ => 0))) (N' := 12) hx hb (hts (.arrayClass .int) (by decide +kernel)) rfl hK hP hD hS hA (fun _ => rfl) (by decide +kernel) (by decide +kernel) (Nat.le_of_ble_eq_true rfl) (Nat.le_of_ble_eq_true rfl) (Nat.le_of_ble_eq_true rfl) dX0_init_86 (fun q86 cA86 H hK hP hD hS => ?_)
  have e86 : cA86 = cI := Option.some.inj ((hK.2 1 (cA86, .int) rfl).2.symm.trans (hK.2 0 (cI, .int) rfl).2)
  rw [e86] at hK hP hD
  have hK : va_K (dC, dI) vwCl [(cI, .int)] s := hK.sub [0] rfl
  have hP : va_P (dC, dI) vwCl [(h0, .inr (0, [.int (zI 1), .int (zI 1), .ref q18, .ref q27, .ref q35, .ref q42, .ref q58, .ref q78, .null, .null, .null, .null, .null, .null, .null, .null])), (q18, .inl (cI, 210, .inl (fun _ => 0))), (q27, .inl (cI, 210, .inl (fun _ => 0))), (q35, .inl (cI, 70, .inl (fun _ => 0))), (q42, .inl (cI, 2, .inl (upd (upd (fun _ => 0) (zI 0).toNatClampNeg (zI 1)) (zI 1).toNatClampNeg (zI 10)))), (q58, .inl (cI, 3, .inl (upd (upd (upd (fun _ => 0) (zI 0).toNatClampNeg (zI 1)) (zI 1).toNatClampNeg (zI 0)) (zI 2).toNatClampNeg (zI 0)))), (q78, .inl (cI, 6, .inl (fun _ => 0))), (q86, .inl (cI, 12, .inl (fun _ => 0)))] H := hP
  have hD : va_D A [(h0, .inr (0, [.int (zI 1), .int (zI 1), .ref q18, .ref q27, .ref q35, .ref q42, .ref q58, .ref q78, .null, .null, .null, .null, .null, .null, .null, .null])), (q18, .inl (cI, 210, .inl (fun _ => 0))), (q27, .inl (cI, 210, .inl (fun _ => 0))), (q35, .inl (cI, 70, .inl (fun _ => 0))), (q42, .inl (cI, 2, .inl (upd (upd (fun _ => 0) (zI 0).toNatClampNeg (zI 1)) (zI 1).toNatClampNeg (zI 10)))), (q58, .inl (cI, 3, .inl (upd (upd (upd (fun _ => 0) (zI 0).toNatClampNeg (zI 1)) (zI 1).toNatClampNeg (zI 0)) (zI 2).toNatClampNeg (zI 0)))), (q78, .inl (cI, 6, .inl (fun _ => 0))), (q86, .inl (cI, 12, .inl (fun _ => 0)))] := hD
  refine W.widen (k := 7) (n := 513) (by omega) (by omega) ?_
  refine va_putF (D := (dC, dI)) (ci := 0) (v := .ref q86) (ty := .array .int) (C := RX0) (T := TX0) (N := 16) hx hb hts inX0_init tyX0 tyX0_ok nmX0 hown hK hP hD hS 0 rfl rfl 8 (by decide) (hts (.fieldLink RX0 35 "PianoJury" "minutes" "[I") (by decide +kernel)) (fun _ h9 => h9) rfl hin rfl (by decide +kernel) rfl rfl (Nat.le_of_ble_eq_true rfl) dX0_init_88 (fun H locs hP hD hS => ?_)
  have hP : va_P (dC, dI) vwCl [(h0, .inr (0, [.int (zI 1), .int (zI 1), .ref q18, .ref q27, .ref q35, .ref q42, .ref q58, .ref q78, .ref q86, .null, .null, .null, .null, .null, .null, .null])), (q18, .inl (cI, 210, .inl (fun _ => 0))), (q27, .inl (cI, 210, .inl (fun _ => 0))), (q35, .inl (cI, 70, .inl (fun _ => 0))), (q42, .inl (cI, 2, .inl (upd (upd (fun _ => 0) (zI 0).toNatClampNeg (zI 1)) (zI 1).toNatClampNeg (zI 10)))), (q58, .inl (cI, 3, .inl (upd (upd (upd (fun _ => 0) (zI 0).toNatClampNeg (zI 1)) (zI 1).toNatClampNeg (zI 0)) (zI 2).toNatClampNeg (zI 0)))), (q78, .inl (cI, 6, .inl (fun _ => 0))), (q86, .inl (cI, 12, .inl (fun _ => 0)))] H := hP
  have hD : va_D A [(h0, .inr (0, [.int (zI 1), .int (zI 1), .ref q18, .ref q27, .ref q35, .ref q42, .ref q58, .ref q78, .ref q86, .null, .null, .null, .null, .null, .null, .null])), (q18, .inl (cI, 210, .inl (fun _ => 0))), (q27, .inl (cI, 210, .inl (fun _ => 0))), (q35, .inl (cI, 70, .inl (fun _ => 0))), (q42, .inl (cI, 2, .inl (upd (upd (fun _ => 0) (zI 0).toNatClampNeg (zI 1)) (zI 1).toNatClampNeg (zI 10)))), (q58, .inl (cI, 3, .inl (upd (upd (upd (fun _ => 0) (zI 0).toNatClampNeg (zI 1)) (zI 1).toNatClampNeg (zI 0)) (zI 2).toNatClampNeg (zI 0)))), (q78, .inl (cI, 6, .inl (fun _ => 0))), (q86, .inl (cI, 12, .inl (fun _ => 0)))] := hD
  refine lv_aload_n hx hb dX0_init_91 rfl (lv_at hl 0 rfl) ?_
  refine lv_bipush (v := zI 30) hx hb dX0_init_92 (by decide) ?_
  refine va_newa (atype := .int) (a0 := (30, .inl (fun _ => 0))) (N' := 30) hx hb (hts (.arrayClass .int) (by decide +kernel)) rfl hK hP hD hS hA (fun _ => rfl) (by decide +kernel) (by decide +kernel) (Nat.le_of_ble_eq_true rfl) (Nat.le_of_ble_eq_true rfl) (Nat.le_of_ble_eq_true rfl) dX0_init_94 (fun q94 cA94 H hK hP hD hS => ?_)
  have e94 : cA94 = cI := Option.some.inj ((hK.2 1 (cA94, .int) rfl).2.symm.trans (hK.2 0 (cI, .int) rfl).2)
  rw [e94] at hK hP hD
  have hK : va_K (dC, dI) vwCl [(cI, .int)] s := hK.sub [0] rfl
  have hP : va_P (dC, dI) vwCl [(h0, .inr (0, [.int (zI 1), .int (zI 1), .ref q18, .ref q27, .ref q35, .ref q42, .ref q58, .ref q78, .ref q86, .null, .null, .null, .null, .null, .null, .null])), (q18, .inl (cI, 210, .inl (fun _ => 0))), (q27, .inl (cI, 210, .inl (fun _ => 0))), (q35, .inl (cI, 70, .inl (fun _ => 0))), (q42, .inl (cI, 2, .inl (upd (upd (fun _ => 0) (zI 0).toNatClampNeg (zI 1)) (zI 1).toNatClampNeg (zI 10)))), (q58, .inl (cI, 3, .inl (upd (upd (upd (fun _ => 0) (zI 0).toNatClampNeg (zI 1)) (zI 1).toNatClampNeg (zI 0)) (zI 2).toNatClampNeg (zI 0)))), (q78, .inl (cI, 6, .inl (fun _ => 0))), (q86, .inl (cI, 12, .inl (fun _ => 0))), (q94, .inl (cI, 30, .inl (fun _ => 0)))] H := hP
  have hD : va_D A [(h0, .inr (0, [.int (zI 1), .int (zI 1), .ref q18, .ref q27, .ref q35, .ref q42, .ref q58, .ref q78, .ref q86, .null, .null, .null, .null, .null, .null, .null])), (q18, .inl (cI, 210, .inl (fun _ => 0))), (q27, .inl (cI, 210, .inl (fun _ => 0))), (q35, .inl (cI, 70, .inl (fun _ => 0))), (q42, .inl (cI, 2, .inl (upd (upd (fun _ => 0) (zI 0).toNatClampNeg (zI 1)) (zI 1).toNatClampNeg (zI 10)))), (q58, .inl (cI, 3, .inl (upd (upd (upd (fun _ => 0) (zI 0).toNatClampNeg (zI 1)) (zI 1).toNatClampNeg (zI 0)) (zI 2).toNatClampNeg (zI 0)))), (q78, .inl (cI, 6, .inl (fun _ => 0))), (q86, .inl (cI, 12, .inl (fun _ => 0))), (q94, .inl (cI, 30, .inl (fun _ => 0)))] := hD
  refine W.widen (k := 8) (n := 543) (by omega) (by omega) ?_
  refine va_putF (D := (dC, dI)) (ci := 0) (v := .ref q94) (ty := .array .int) (C := RX0) (T := TX0) (N := 16) hx hb hts inX0_init tyX0 tyX0_ok nmX0 hown hK hP hD hS 0 rfl rfl 9 (by decide) (hts (.fieldLink RX0 38 "PianoJury" "programmes" "[I") (by decide +kernel)) (fun _ h9 => h9) rfl hin rfl (by decide +kernel) rfl rfl (Nat.le_of_ble_eq_true rfl) dX0_init_96 (fun H locs hP hD hS => ?_)
  have hP : va_P (dC, dI) vwCl [(h0, .inr (0, [.int (zI 1), .int (zI 1), .ref q18, .ref q27, .ref q35, .ref q42, .ref q58, .ref q78, .ref q86, .ref q94, .null, .null, .null, .null, .null, .null])), (q18, .inl (cI, 210, .inl (fun _ => 0))), (q27, .inl (cI, 210, .inl (fun _ => 0))), (q35, .inl (cI, 70, .inl (fun _ => 0))), (q42, .inl (cI, 2, .inl (upd (upd (fun _ => 0) (zI 0).toNatClampNeg (zI 1)) (zI 1).toNatClampNeg (zI 10)))), (q58, .inl (cI, 3, .inl (upd (upd (upd (fun _ => 0) (zI 0).toNatClampNeg (zI 1)) (zI 1).toNatClampNeg (zI 0)) (zI 2).toNatClampNeg (zI 0)))), (q78, .inl (cI, 6, .inl (fun _ => 0))), (q86, .inl (cI, 12, .inl (fun _ => 0))), (q94, .inl (cI, 30, .inl (fun _ => 0)))] H := hP
  have hD : va_D A [(h0, .inr (0, [.int (zI 1), .int (zI 1), .ref q18, .ref q27, .ref q35, .ref q42, .ref q58, .ref q78, .ref q86, .ref q94, .null, .null, .null, .null, .null, .null])), (q18, .inl (cI, 210, .inl (fun _ => 0))), (q27, .inl (cI, 210, .inl (fun _ => 0))), (q35, .inl (cI, 70, .inl (fun _ => 0))), (q42, .inl (cI, 2, .inl (upd (upd (fun _ => 0) (zI 0).toNatClampNeg (zI 1)) (zI 1).toNatClampNeg (zI 10)))), (q58, .inl (cI, 3, .inl (upd (upd (upd (fun _ => 0) (zI 0).toNatClampNeg (zI 1)) (zI 1).toNatClampNeg (zI 0)) (zI 2).toNatClampNeg (zI 0)))), (q78, .inl (cI, 6, .inl (fun _ => 0))), (q86, .inl (cI, 12, .inl (fun _ => 0))), (q94, .inl (cI, 30, .inl (fun _ => 0)))] := hD
  refine lv_aload_n hx hb dX0_init_99 rfl (lv_at hl 0 rfl) ?_
  refine lv_bipush (v := zI 10) hx hb dX0_init_100 (by decide) ?_
  refine va_newa (atype := .int) (a0 := (10, .inl (fun _ => 0))) (N' := 10) hx hb (hts (.arrayClass .int) (by decide +kernel)) rfl hK hP hD hS hA (fun _ => rfl) (by decide +kernel) (by decide +kernel) (Nat.le_of_ble_eq_true rfl) (Nat.le_of_ble_eq_true rfl) (Nat.le_of_ble_eq_true rfl) dX0_init_102 (fun q102 cA102 H hK hP hD hS => ?_)
  have e102 : cA102 = cI := Option.some.inj ((hK.2 1 (cA102, .int) rfl).2.symm.trans (hK.2 0 (cI, .int) rfl).2)
  rw [e102] at hK hP hD
  have hK : va_K (dC, dI) vwCl [(cI, .int)] s := hK.sub [0] rfl
  have hP : va_P (dC, dI) vwCl [(h0, .inr (0, [.int (zI 1), .int (zI 1), .ref q18, .ref q27, .ref q35, .ref q42, .ref q58, .ref q78, .ref q86, .ref q94, .null, .null, .null, .null, .null, .null])), (q18, .inl (cI, 210, .inl (fun _ => 0))), (q27, .inl (cI, 210, .inl (fun _ => 0))), (q35, .inl (cI, 70, .inl (fun _ => 0))), (q42, .inl (cI, 2, .inl (upd (upd (fun _ => 0) (zI 0).toNatClampNeg (zI 1)) (zI 1).toNatClampNeg (zI 10)))), (q58, .inl (cI, 3, .inl (upd (upd (upd (fun _ => 0) (zI 0).toNatClampNeg (zI 1)) (zI 1).toNatClampNeg (zI 0)) (zI 2).toNatClampNeg (zI 0)))), (q78, .inl (cI, 6, .inl (fun _ => 0))), (q86, .inl (cI, 12, .inl (fun _ => 0))), (q94, .inl (cI, 30, .inl (fun _ => 0))), (q102, .inl (cI, 10, .inl (fun _ => 0)))] H := hP
  have hD : va_D A [(h0, .inr (0, [.int (zI 1), .int (zI 1), .ref q18, .ref q27, .ref q35, .ref q42, .ref q58, .ref q78, .ref q86, .ref q94, .null, .null, .null, .null, .null, .null])), (q18, .inl (cI, 210, .inl (fun _ => 0))), (q27, .inl (cI, 210, .inl (fun _ => 0))), (q35, .inl (cI, 70, .inl (fun _ => 0))), (q42, .inl (cI, 2, .inl (upd (upd (fun _ => 0) (zI 0).toNatClampNeg (zI 1)) (zI 1).toNatClampNeg (zI 10)))), (q58, .inl (cI, 3, .inl (upd (upd (upd (fun _ => 0) (zI 0).toNatClampNeg (zI 1)) (zI 1).toNatClampNeg (zI 0)) (zI 2).toNatClampNeg (zI 0)))), (q78, .inl (cI, 6, .inl (fun _ => 0))), (q86, .inl (cI, 12, .inl (fun _ => 0))), (q94, .inl (cI, 30, .inl (fun _ => 0))), (q102, .inl (cI, 10, .inl (fun _ => 0)))] := hD
  refine W.widen (k := 9) (n := 553) (by omega) (by omega) ?_
  refine va_putF (D := (dC, dI)) (ci := 0) (v := .ref q102) (ty := .array .int) (C := RX0) (T := TX0) (N := 16) hx hb hts inX0_init tyX0 tyX0_ok nmX0 hown hK hP hD hS 0 rfl rfl 10 (by decide) (hts (.fieldLink RX0 41 "PianoJury" "programmeCounts" "[I") (by decide +kernel)) (fun _ h9 => h9) rfl hin rfl (by decide +kernel) rfl rfl (Nat.le_of_ble_eq_true rfl) dX0_init_104 (fun H locs hP hD hS => ?_)
  have hP : va_P (dC, dI) vwCl [(h0, .inr (0, [.int (zI 1), .int (zI 1), .ref q18, .ref q27, .ref q35, .ref q42, .ref q58, .ref q78, .ref q86, .ref q94, .ref q102, .null, .null, .null, .null, .null])), (q18, .inl (cI, 210, .inl (fun _ => 0))), (q27, .inl (cI, 210, .inl (fun _ => 0))), (q35, .inl (cI, 70, .inl (fun _ => 0))), (q42, .inl (cI, 2, .inl (upd (upd (fun _ => 0) (zI 0).toNatClampNeg (zI 1)) (zI 1).toNatClampNeg (zI 10)))), (q58, .inl (cI, 3, .inl (upd (upd (upd (fun _ => 0) (zI 0).toNatClampNeg (zI 1)) (zI 1).toNatClampNeg (zI 0)) (zI 2).toNatClampNeg (zI 0)))), (q78, .inl (cI, 6, .inl (fun _ => 0))), (q86, .inl (cI, 12, .inl (fun _ => 0))), (q94, .inl (cI, 30, .inl (fun _ => 0))), (q102, .inl (cI, 10, .inl (fun _ => 0)))] H := hP
  have hD : va_D A [(h0, .inr (0, [.int (zI 1), .int (zI 1), .ref q18, .ref q27, .ref q35, .ref q42, .ref q58, .ref q78, .ref q86, .ref q94, .ref q102, .null, .null, .null, .null, .null])), (q18, .inl (cI, 210, .inl (fun _ => 0))), (q27, .inl (cI, 210, .inl (fun _ => 0))), (q35, .inl (cI, 70, .inl (fun _ => 0))), (q42, .inl (cI, 2, .inl (upd (upd (fun _ => 0) (zI 0).toNatClampNeg (zI 1)) (zI 1).toNatClampNeg (zI 10)))), (q58, .inl (cI, 3, .inl (upd (upd (upd (fun _ => 0) (zI 0).toNatClampNeg (zI 1)) (zI 1).toNatClampNeg (zI 0)) (zI 2).toNatClampNeg (zI 0)))), (q78, .inl (cI, 6, .inl (fun _ => 0))), (q86, .inl (cI, 12, .inl (fun _ => 0))), (q94, .inl (cI, 30, .inl (fun _ => 0))), (q102, .inl (cI, 10, .inl (fun _ => 0)))] := hD
  refine lv_aload_n hx hb dX0_init_107 rfl (lv_at hl 0 rfl) ?_
  refine lv_bipush (v := zI 10) hx hb dX0_init_108 (by decide) ?_
  refine va_newa (atype := .int) (a0 := (10, .inl (fun _ => 0))) (N' := 10) hx hb (hts (.arrayClass .int) (by decide +kernel)) rfl hK hP hD hS hA (fun _ => rfl) (by decide +kernel) (by decide +kernel) (Nat.le_of_ble_eq_true rfl) (Nat.le_of_ble_eq_true rfl) (Nat.le_of_ble_eq_true rfl) dX0_init_110 (fun q110 cA110 H hK hP hD hS => ?_)
  have e110 : cA110 = cI := Option.some.inj ((hK.2 1 (cA110, .int) rfl).2.symm.trans (hK.2 0 (cI, .int) rfl).2)
  rw [e110] at hK hP hD
  have hK : va_K (dC, dI) vwCl [(cI, .int)] s := hK.sub [0] rfl
  have hP : va_P (dC, dI) vwCl [(h0, .inr (0, [.int (zI 1), .int (zI 1), .ref q18, .ref q27, .ref q35, .ref q42, .ref q58, .ref q78, .ref q86, .ref q94, .ref q102, .null, .null, .null, .null, .null])), (q18, .inl (cI, 210, .inl (fun _ => 0))), (q27, .inl (cI, 210, .inl (fun _ => 0))), (q35, .inl (cI, 70, .inl (fun _ => 0))), (q42, .inl (cI, 2, .inl (upd (upd (fun _ => 0) (zI 0).toNatClampNeg (zI 1)) (zI 1).toNatClampNeg (zI 10)))), (q58, .inl (cI, 3, .inl (upd (upd (upd (fun _ => 0) (zI 0).toNatClampNeg (zI 1)) (zI 1).toNatClampNeg (zI 0)) (zI 2).toNatClampNeg (zI 0)))), (q78, .inl (cI, 6, .inl (fun _ => 0))), (q86, .inl (cI, 12, .inl (fun _ => 0))), (q94, .inl (cI, 30, .inl (fun _ => 0))), (q102, .inl (cI, 10, .inl (fun _ => 0))), (q110, .inl (cI, 10, .inl (fun _ => 0)))] H := hP
  have hD : va_D A [(h0, .inr (0, [.int (zI 1), .int (zI 1), .ref q18, .ref q27, .ref q35, .ref q42, .ref q58, .ref q78, .ref q86, .ref q94, .ref q102, .null, .null, .null, .null, .null])), (q18, .inl (cI, 210, .inl (fun _ => 0))), (q27, .inl (cI, 210, .inl (fun _ => 0))), (q35, .inl (cI, 70, .inl (fun _ => 0))), (q42, .inl (cI, 2, .inl (upd (upd (fun _ => 0) (zI 0).toNatClampNeg (zI 1)) (zI 1).toNatClampNeg (zI 10)))), (q58, .inl (cI, 3, .inl (upd (upd (upd (fun _ => 0) (zI 0).toNatClampNeg (zI 1)) (zI 1).toNatClampNeg (zI 0)) (zI 2).toNatClampNeg (zI 0)))), (q78, .inl (cI, 6, .inl (fun _ => 0))), (q86, .inl (cI, 12, .inl (fun _ => 0))), (q94, .inl (cI, 30, .inl (fun _ => 0))), (q102, .inl (cI, 10, .inl (fun _ => 0))), (q110, .inl (cI, 10, .inl (fun _ => 0)))] := hD
  refine W.widen (k := 10) (n := 563) (by omega) (by omega) ?_
  refine va_putF (D := (dC, dI)) (ci := 0) (v := .ref q110) (ty := .array .int) (C := RX0) (T := TX0) (N := 16) hx hb hts inX0_init tyX0 tyX0_ok nmX0 hown hK hP hD hS 0 rfl rfl 11 (by decide) (hts (.fieldLink RX0 44 "PianoJury" "choices" "[I") (by decide +kernel)) (fun _ h9 => h9) rfl hin rfl (by decide +kernel) rfl rfl (Nat.le_of_ble_eq_true rfl) dX0_init_112 (fun H locs hP hD hS => ?_)
  have hP : va_P (dC, dI) vwCl [(h0, .inr (0, [.int (zI 1), .int (zI 1), .ref q18, .ref q27, .ref q35, .ref q42, .ref q58, .ref q78, .ref q86, .ref q94, .ref q102, .ref q110, .null, .null, .null, .null])), (q18, .inl (cI, 210, .inl (fun _ => 0))), (q27, .inl (cI, 210, .inl (fun _ => 0))), (q35, .inl (cI, 70, .inl (fun _ => 0))), (q42, .inl (cI, 2, .inl (upd (upd (fun _ => 0) (zI 0).toNatClampNeg (zI 1)) (zI 1).toNatClampNeg (zI 10)))), (q58, .inl (cI, 3, .inl (upd (upd (upd (fun _ => 0) (zI 0).toNatClampNeg (zI 1)) (zI 1).toNatClampNeg (zI 0)) (zI 2).toNatClampNeg (zI 0)))), (q78, .inl (cI, 6, .inl (fun _ => 0))), (q86, .inl (cI, 12, .inl (fun _ => 0))), (q94, .inl (cI, 30, .inl (fun _ => 0))), (q102, .inl (cI, 10, .inl (fun _ => 0))), (q110, .inl (cI, 10, .inl (fun _ => 0)))] H := hP
  have hD : va_D A [(h0, .inr (0, [.int (zI 1), .int (zI 1), .ref q18, .ref q27, .ref q35, .ref q42, .ref q58, .ref q78, .ref q86, .ref q94, .ref q102, .ref q110, .null, .null, .null, .null])), (q18, .inl (cI, 210, .inl (fun _ => 0))), (q27, .inl (cI, 210, .inl (fun _ => 0))), (q35, .inl (cI, 70, .inl (fun _ => 0))), (q42, .inl (cI, 2, .inl (upd (upd (fun _ => 0) (zI 0).toNatClampNeg (zI 1)) (zI 1).toNatClampNeg (zI 10)))), (q58, .inl (cI, 3, .inl (upd (upd (upd (fun _ => 0) (zI 0).toNatClampNeg (zI 1)) (zI 1).toNatClampNeg (zI 0)) (zI 2).toNatClampNeg (zI 0)))), (q78, .inl (cI, 6, .inl (fun _ => 0))), (q86, .inl (cI, 12, .inl (fun _ => 0))), (q94, .inl (cI, 30, .inl (fun _ => 0))), (q102, .inl (cI, 10, .inl (fun _ => 0))), (q110, .inl (cI, 10, .inl (fun _ => 0)))] := hD
  refine lv_aload_n hx hb dX0_init_115 rfl (lv_at hl 0 rfl) ?_
  refine lv_bipush (v := zI 7) hx hb dX0_init_116 (by decide) ?_
  refine va_newa (atype := .int) (a0 := (7, .inl (fun _ => 0))) (N' := 7) hx hb (hts (.arrayClass .int) (by decide +kernel)) rfl hK hP hD hS hA (fun _ => rfl) (by decide +kernel) (by decide +kernel) (Nat.le_of_ble_eq_true rfl) (Nat.le_of_ble_eq_true rfl) (Nat.le_of_ble_eq_true rfl) dX0_init_118 (fun q118 cA118 H hK hP hD hS => ?_)
  have e118 : cA118 = cI := Option.some.inj ((hK.2 1 (cA118, .int) rfl).2.symm.trans (hK.2 0 (cI, .int) rfl).2)
  rw [e118] at hK hP hD
  have hK : va_K (dC, dI) vwCl [(cI, .int)] s := hK.sub [0] rfl
  have hP : va_P (dC, dI) vwCl [(h0, .inr (0, [.int (zI 1), .int (zI 1), .ref q18, .ref q27, .ref q35, .ref q42, .ref q58, .ref q78, .ref q86, .ref q94, .ref q102, .ref q110, .null, .null, .null, .null])), (q18, .inl (cI, 210, .inl (fun _ => 0))), (q27, .inl (cI, 210, .inl (fun _ => 0))), (q35, .inl (cI, 70, .inl (fun _ => 0))), (q42, .inl (cI, 2, .inl (upd (upd (fun _ => 0) (zI 0).toNatClampNeg (zI 1)) (zI 1).toNatClampNeg (zI 10)))), (q58, .inl (cI, 3, .inl (upd (upd (upd (fun _ => 0) (zI 0).toNatClampNeg (zI 1)) (zI 1).toNatClampNeg (zI 0)) (zI 2).toNatClampNeg (zI 0)))), (q78, .inl (cI, 6, .inl (fun _ => 0))), (q86, .inl (cI, 12, .inl (fun _ => 0))), (q94, .inl (cI, 30, .inl (fun _ => 0))), (q102, .inl (cI, 10, .inl (fun _ => 0))), (q110, .inl (cI, 10, .inl (fun _ => 0))), (q118, .inl (cI, 7, .inl (fun _ => 0)))] H := hP
  have hD : va_D A [(h0, .inr (0, [.int (zI 1), .int (zI 1), .ref q18, .ref q27, .ref q35, .ref q42, .ref q58, .ref q78, .ref q86, .ref q94, .ref q102, .ref q110, .null, .null, .null, .null])), (q18, .inl (cI, 210, .inl (fun _ => 0))), (q27, .inl (cI, 210, .inl (fun _ => 0))), (q35, .inl (cI, 70, .inl (fun _ => 0))), (q42, .inl (cI, 2, .inl (upd (upd (fun _ => 0) (zI 0).toNatClampNeg (zI 1)) (zI 1).toNatClampNeg (zI 10)))), (q58, .inl (cI, 3, .inl (upd (upd (upd (fun _ => 0) (zI 0).toNatClampNeg (zI 1)) (zI 1).toNatClampNeg (zI 0)) (zI 2).toNatClampNeg (zI 0)))), (q78, .inl (cI, 6, .inl (fun _ => 0))), (q86, .inl (cI, 12, .inl (fun _ => 0))), (q94, .inl (cI, 30, .inl (fun _ => 0))), (q102, .inl (cI, 10, .inl (fun _ => 0))), (q110, .inl (cI, 10, .inl (fun _ => 0))), (q118, .inl (cI, 7, .inl (fun _ => 0)))] := hD
  refine W.widen (k := 11) (n := 570) (by omega) (by omega) ?_
  refine va_putF (D := (dC, dI)) (ci := 0) (v := .ref q118) (ty := .array .int) (C := RX0) (T := TX0) (N := 16) hx hb hts inX0_init tyX0 tyX0_ok nmX0 hown hK hP hD hS 0 rfl rfl 12 (by decide) (hts (.fieldLink RX0 47 "PianoJury" "sorted" "[I") (by decide +kernel)) (fun _ h9 => h9) rfl hin rfl (by decide +kernel) rfl rfl (Nat.le_of_ble_eq_true rfl) dX0_init_120 (fun H locs hP hD hS => ?_)
  have hP : va_P (dC, dI) vwCl [(h0, .inr (0, [.int (zI 1), .int (zI 1), .ref q18, .ref q27, .ref q35, .ref q42, .ref q58, .ref q78, .ref q86, .ref q94, .ref q102, .ref q110, .ref q118, .null, .null, .null])), (q18, .inl (cI, 210, .inl (fun _ => 0))), (q27, .inl (cI, 210, .inl (fun _ => 0))), (q35, .inl (cI, 70, .inl (fun _ => 0))), (q42, .inl (cI, 2, .inl (upd (upd (fun _ => 0) (zI 0).toNatClampNeg (zI 1)) (zI 1).toNatClampNeg (zI 10)))), (q58, .inl (cI, 3, .inl (upd (upd (upd (fun _ => 0) (zI 0).toNatClampNeg (zI 1)) (zI 1).toNatClampNeg (zI 0)) (zI 2).toNatClampNeg (zI 0)))), (q78, .inl (cI, 6, .inl (fun _ => 0))), (q86, .inl (cI, 12, .inl (fun _ => 0))), (q94, .inl (cI, 30, .inl (fun _ => 0))), (q102, .inl (cI, 10, .inl (fun _ => 0))), (q110, .inl (cI, 10, .inl (fun _ => 0))), (q118, .inl (cI, 7, .inl (fun _ => 0)))] H := hP
  have hD : va_D A [(h0, .inr (0, [.int (zI 1), .int (zI 1), .ref q18, .ref q27, .ref q35, .ref q42, .ref q58, .ref q78, .ref q86, .ref q94, .ref q102, .ref q110, .ref q118, .null, .null, .null])), (q18, .inl (cI, 210, .inl (fun _ => 0))), (q27, .inl (cI, 210, .inl (fun _ => 0))), (q35, .inl (cI, 70, .inl (fun _ => 0))), (q42, .inl (cI, 2, .inl (upd (upd (fun _ => 0) (zI 0).toNatClampNeg (zI 1)) (zI 1).toNatClampNeg (zI 10)))), (q58, .inl (cI, 3, .inl (upd (upd (upd (fun _ => 0) (zI 0).toNatClampNeg (zI 1)) (zI 1).toNatClampNeg (zI 0)) (zI 2).toNatClampNeg (zI 0)))), (q78, .inl (cI, 6, .inl (fun _ => 0))), (q86, .inl (cI, 12, .inl (fun _ => 0))), (q94, .inl (cI, 30, .inl (fun _ => 0))), (q102, .inl (cI, 10, .inl (fun _ => 0))), (q110, .inl (cI, 10, .inl (fun _ => 0))), (q118, .inl (cI, 7, .inl (fun _ => 0)))] := hD
  refine lv_aload_n hx hb dX0_init_123 rfl (lv_at hl 0 rfl) ?_
  refine lv_bipush (v := zI 10) hx hb dX0_init_124 (by decide) ?_
  refine va_newa (atype := .int) (a0 := (10, .inl (fun _ => 0))) (N' := 10) hx hb (hts (.arrayClass .int) (by decide +kernel)) rfl hK hP hD hS hA (fun _ => rfl) (by decide +kernel) (by decide +kernel) (Nat.le_of_ble_eq_true rfl) (Nat.le_of_ble_eq_true rfl) (Nat.le_of_ble_eq_true rfl) dX0_init_126 (fun q126 cA126 H hK hP hD hS => ?_)
  have e126 : cA126 = cI := Option.some.inj ((hK.2 1 (cA126, .int) rfl).2.symm.trans (hK.2 0 (cI, .int) rfl).2)
  rw [e126] at hK hP hD
  have hK : va_K (dC, dI) vwCl [(cI, .int)] s := hK.sub [0] rfl
  have hP : va_P (dC, dI) vwCl [(h0, .inr (0, [.int (zI 1), .int (zI 1), .ref q18, .ref q27, .ref q35, .ref q42, .ref q58, .ref q78, .ref q86, .ref q94, .ref q102, .ref q110, .ref q118, .null, .null, .null])), (q18, .inl (cI, 210, .inl (fun _ => 0))), (q27, .inl (cI, 210, .inl (fun _ => 0))), (q35, .inl (cI, 70, .inl (fun _ => 0))), (q42, .inl (cI, 2, .inl (upd (upd (fun _ => 0) (zI 0).toNatClampNeg (zI 1)) (zI 1).toNatClampNeg (zI 10)))), (q58, .inl (cI, 3, .inl (upd (upd (upd (fun _ => 0) (zI 0).toNatClampNeg (zI 1)) (zI 1).toNatClampNeg (zI 0)) (zI 2).toNatClampNeg (zI 0)))), (q78, .inl (cI, 6, .inl (fun _ => 0))), (q86, .inl (cI, 12, .inl (fun _ => 0))), (q94, .inl (cI, 30, .inl (fun _ => 0))), (q102, .inl (cI, 10, .inl (fun _ => 0))), (q110, .inl (cI, 10, .inl (fun _ => 0))), (q118, .inl (cI, 7, .inl (fun _ => 0))), (q126, .inl (cI, 10, .inl (fun _ => 0)))] H := hP
  have hD : va_D A [(h0, .inr (0, [.int (zI 1), .int (zI 1), .ref q18, .ref q27, .ref q35, .ref q42, .ref q58, .ref q78, .ref q86, .ref q94, .ref q102, .ref q110, .ref q118, .null, .null, .null])), (q18, .inl (cI, 210, .inl (fun _ => 0))), (q27, .inl (cI, 210, .inl (fun _ => 0))), (q35, .inl (cI, 70, .inl (fun _ => 0))), (q42, .inl (cI, 2, .inl (upd (upd (fun _ => 0) (zI 0).toNatClampNeg (zI 1)) (zI 1).toNatClampNeg (zI 10)))), (q58, .inl (cI, 3, .inl (upd (upd (upd (fun _ => 0) (zI 0).toNatClampNeg (zI 1)) (zI 1).toNatClampNeg (zI 0)) (zI 2).toNatClampNeg (zI 0)))), (q78, .inl (cI, 6, .inl (fun _ => 0))), (q86, .inl (cI, 12, .inl (fun _ => 0))), (q94, .inl (cI, 30, .inl (fun _ => 0))), (q102, .inl (cI, 10, .inl (fun _ => 0))), (q110, .inl (cI, 10, .inl (fun _ => 0))), (q118, .inl (cI, 7, .inl (fun _ => 0))), (q126, .inl (cI, 10, .inl (fun _ => 0)))] := hD
  refine W.widen (k := 12) (n := 580) (by omega) (by omega) ?_
  refine va_putF (D := (dC, dI)) (ci := 0) (v := .ref q126) (ty := .array .int) (C := RX0) (T := TX0) (N := 16) hx hb hts inX0_init tyX0 tyX0_ok nmX0 hown hK hP hD hS 0 rfl rfl 13 (by decide) (hts (.fieldLink RX0 50 "PianoJury" "scores" "[I") (by decide +kernel)) (fun _ h9 => h9) rfl hin rfl (by decide +kernel) rfl rfl (Nat.le_of_ble_eq_true rfl) dX0_init_128 (fun H locs hP hD hS => ?_)
  have hP : va_P (dC, dI) vwCl [(h0, .inr (0, [.int (zI 1), .int (zI 1), .ref q18, .ref q27, .ref q35, .ref q42, .ref q58, .ref q78, .ref q86, .ref q94, .ref q102, .ref q110, .ref q118, .ref q126, .null, .null])), (q18, .inl (cI, 210, .inl (fun _ => 0))), (q27, .inl (cI, 210, .inl (fun _ => 0))), (q35, .inl (cI, 70, .inl (fun _ => 0))), (q42, .inl (cI, 2, .inl (upd (upd (fun _ => 0) (zI 0).toNatClampNeg (zI 1)) (zI 1).toNatClampNeg (zI 10)))), (q58, .inl (cI, 3, .inl (upd (upd (upd (fun _ => 0) (zI 0).toNatClampNeg (zI 1)) (zI 1).toNatClampNeg (zI 0)) (zI 2).toNatClampNeg (zI 0)))), (q78, .inl (cI, 6, .inl (fun _ => 0))), (q86, .inl (cI, 12, .inl (fun _ => 0))), (q94, .inl (cI, 30, .inl (fun _ => 0))), (q102, .inl (cI, 10, .inl (fun _ => 0))), (q110, .inl (cI, 10, .inl (fun _ => 0))), (q118, .inl (cI, 7, .inl (fun _ => 0))), (q126, .inl (cI, 10, .inl (fun _ => 0)))] H := hP
  have hD : va_D A [(h0, .inr (0, [.int (zI 1), .int (zI 1), .ref q18, .ref q27, .ref q35, .ref q42, .ref q58, .ref q78, .ref q86, .ref q94, .ref q102, .ref q110, .ref q118, .ref q126, .null, .null])), (q18, .inl (cI, 210, .inl (fun _ => 0))), (q27, .inl (cI, 210, .inl (fun _ => 0))), (q35, .inl (cI, 70, .inl (fun _ => 0))), (q42, .inl (cI, 2, .inl (upd (upd (fun _ => 0) (zI 0).toNatClampNeg (zI 1)) (zI 1).toNatClampNeg (zI 10)))), (q58, .inl (cI, 3, .inl (upd (upd (upd (fun _ => 0) (zI 0).toNatClampNeg (zI 1)) (zI 1).toNatClampNeg (zI 0)) (zI 2).toNatClampNeg (zI 0)))), (q78, .inl (cI, 6, .inl (fun _ => 0))), (q86, .inl (cI, 12, .inl (fun _ => 0))), (q94, .inl (cI, 30, .inl (fun _ => 0))), (q102, .inl (cI, 10, .inl (fun _ => 0))), (q110, .inl (cI, 10, .inl (fun _ => 0))), (q118, .inl (cI, 7, .inl (fun _ => 0))), (q126, .inl (cI, 10, .inl (fun _ => 0)))] := hD
  refine lv_aload_n hx hb dX0_init_131 rfl (lv_at hl 0 rfl) ?_
  refine lv_bipush (v := zI 10) hx hb dX0_init_132 (by decide) ?_
  refine va_newa (atype := .int) (a0 := (10, .inl (fun _ => 0))) (N' := 10) hx hb (hts (.arrayClass .int) (by decide +kernel)) rfl hK hP hD hS hA (fun _ => rfl) (by decide +kernel) (by decide +kernel) (Nat.le_of_ble_eq_true rfl) (Nat.le_of_ble_eq_true rfl) (Nat.le_of_ble_eq_true rfl) dX0_init_134 (fun q134 cA134 H hK hP hD hS => ?_)
  have e134 : cA134 = cI := Option.some.inj ((hK.2 1 (cA134, .int) rfl).2.symm.trans (hK.2 0 (cI, .int) rfl).2)
  rw [e134] at hK hP hD
  have hK : va_K (dC, dI) vwCl [(cI, .int)] s := hK.sub [0] rfl
  have hP : va_P (dC, dI) vwCl [(h0, .inr (0, [.int (zI 1), .int (zI 1), .ref q18, .ref q27, .ref q35, .ref q42, .ref q58, .ref q78, .ref q86, .ref q94, .ref q102, .ref q110, .ref q118, .ref q126, .null, .null])), (q18, .inl (cI, 210, .inl (fun _ => 0))), (q27, .inl (cI, 210, .inl (fun _ => 0))), (q35, .inl (cI, 70, .inl (fun _ => 0))), (q42, .inl (cI, 2, .inl (upd (upd (fun _ => 0) (zI 0).toNatClampNeg (zI 1)) (zI 1).toNatClampNeg (zI 10)))), (q58, .inl (cI, 3, .inl (upd (upd (upd (fun _ => 0) (zI 0).toNatClampNeg (zI 1)) (zI 1).toNatClampNeg (zI 0)) (zI 2).toNatClampNeg (zI 0)))), (q78, .inl (cI, 6, .inl (fun _ => 0))), (q86, .inl (cI, 12, .inl (fun _ => 0))), (q94, .inl (cI, 30, .inl (fun _ => 0))), (q102, .inl (cI, 10, .inl (fun _ => 0))), (q110, .inl (cI, 10, .inl (fun _ => 0))), (q118, .inl (cI, 7, .inl (fun _ => 0))), (q126, .inl (cI, 10, .inl (fun _ => 0))), (q134, .inl (cI, 10, .inl (fun _ => 0)))] H := hP
  have hD : va_D A [(h0, .inr (0, [.int (zI 1), .int (zI 1), .ref q18, .ref q27, .ref q35, .ref q42, .ref q58, .ref q78, .ref q86, .ref q94, .ref q102, .ref q110, .ref q118, .ref q126, .null, .null])), (q18, .inl (cI, 210, .inl (fun _ => 0))), (q27, .inl (cI, 210, .inl (fun _ => 0))), (q35, .inl (cI, 70, .inl (fun _ => 0))), (q42, .inl (cI, 2, .inl (upd (upd (fun _ => 0) (zI 0).toNatClampNeg (zI 1)) (zI 1).toNatClampNeg (zI 10)))), (q58, .inl (cI, 3, .inl (upd (upd (upd (fun _ => 0) (zI 0).toNatClampNeg (zI 1)) (zI 1).toNatClampNeg (zI 0)) (zI 2).toNatClampNeg (zI 0)))), (q78, .inl (cI, 6, .inl (fun _ => 0))), (q86, .inl (cI, 12, .inl (fun _ => 0))), (q94, .inl (cI, 30, .inl (fun _ => 0))), (q102, .inl (cI, 10, .inl (fun _ => 0))), (q110, .inl (cI, 10, .inl (fun _ => 0))), (q118, .inl (cI, 7, .inl (fun _ => 0))), (q126, .inl (cI, 10, .inl (fun _ => 0))), (q134, .inl (cI, 10, .inl (fun _ => 0)))] := hD
  refine W.widen (k := 13) (n := 590) (by omega) (by omega) ?_
  refine va_putF (D := (dC, dI)) (ci := 0) (v := .ref q134) (ty := .array .int) (C := RX0) (T := TX0) (N := 16) hx hb hts inX0_init tyX0 tyX0_ok nmX0 hown hK hP hD hS 0 rfl rfl 14 (by decide) (hts (.fieldLink RX0 53 "PianoJury" "totals" "[I") (by decide +kernel)) (fun _ h9 => h9) rfl hin rfl (by decide +kernel) rfl rfl (Nat.le_of_ble_eq_true rfl) dX0_init_136 (fun H locs hP hD hS => ?_)
  have hP : va_P (dC, dI) vwCl [(h0, .inr (0, [.int (zI 1), .int (zI 1), .ref q18, .ref q27, .ref q35, .ref q42, .ref q58, .ref q78, .ref q86, .ref q94, .ref q102, .ref q110, .ref q118, .ref q126, .ref q134, .null])), (q18, .inl (cI, 210, .inl (fun _ => 0))), (q27, .inl (cI, 210, .inl (fun _ => 0))), (q35, .inl (cI, 70, .inl (fun _ => 0))), (q42, .inl (cI, 2, .inl (upd (upd (fun _ => 0) (zI 0).toNatClampNeg (zI 1)) (zI 1).toNatClampNeg (zI 10)))), (q58, .inl (cI, 3, .inl (upd (upd (upd (fun _ => 0) (zI 0).toNatClampNeg (zI 1)) (zI 1).toNatClampNeg (zI 0)) (zI 2).toNatClampNeg (zI 0)))), (q78, .inl (cI, 6, .inl (fun _ => 0))), (q86, .inl (cI, 12, .inl (fun _ => 0))), (q94, .inl (cI, 30, .inl (fun _ => 0))), (q102, .inl (cI, 10, .inl (fun _ => 0))), (q110, .inl (cI, 10, .inl (fun _ => 0))), (q118, .inl (cI, 7, .inl (fun _ => 0))), (q126, .inl (cI, 10, .inl (fun _ => 0))), (q134, .inl (cI, 10, .inl (fun _ => 0)))] H := hP
  have hD : va_D A [(h0, .inr (0, [.int (zI 1), .int (zI 1), .ref q18, .ref q27, .ref q35, .ref q42, .ref q58, .ref q78, .ref q86, .ref q94, .ref q102, .ref q110, .ref q118, .ref q126, .ref q134, .null])), (q18, .inl (cI, 210, .inl (fun _ => 0))), (q27, .inl (cI, 210, .inl (fun _ => 0))), (q35, .inl (cI, 70, .inl (fun _ => 0))), (q42, .inl (cI, 2, .inl (upd (upd (fun _ => 0) (zI 0).toNatClampNeg (zI 1)) (zI 1).toNatClampNeg (zI 10)))), (q58, .inl (cI, 3, .inl (upd (upd (upd (fun _ => 0) (zI 0).toNatClampNeg (zI 1)) (zI 1).toNatClampNeg (zI 0)) (zI 2).toNatClampNeg (zI 0)))), (q78, .inl (cI, 6, .inl (fun _ => 0))), (q86, .inl (cI, 12, .inl (fun _ => 0))), (q94, .inl (cI, 30, .inl (fun _ => 0))), (q102, .inl (cI, 10, .inl (fun _ => 0))), (q110, .inl (cI, 10, .inl (fun _ => 0))), (q118, .inl (cI, 7, .inl (fun _ => 0))), (q126, .inl (cI, 10, .inl (fun _ => 0))), (q134, .inl (cI, 10, .inl (fun _ => 0)))] := hD
  refine lv_aload_n hx hb dX0_init_139 rfl (lv_at hl 0 rfl) ?_
  refine lv_bipush (v := zI 30) hx hb dX0_init_140 (by decide) ?_
  refine va_newa (atype := .int) (a0 := (30, .inl (fun _ => 0))) (N' := 30) hx hb (hts (.arrayClass .int) (by decide +kernel)) rfl hK hP hD hS hA (fun _ => rfl) (by decide +kernel) (by decide +kernel) (Nat.le_of_ble_eq_true rfl) (Nat.le_of_ble_eq_true rfl) (Nat.le_of_ble_eq_true rfl) dX0_init_142 (fun q142 cA142 H hK hP hD hS => ?_)
  have e142 : cA142 = cI := Option.some.inj ((hK.2 1 (cA142, .int) rfl).2.symm.trans (hK.2 0 (cI, .int) rfl).2)
  rw [e142] at hK hP hD
  have hK : va_K (dC, dI) vwCl [(cI, .int)] s := hK.sub [0] rfl
  have hP : va_P (dC, dI) vwCl [(h0, .inr (0, [.int (zI 1), .int (zI 1), .ref q18, .ref q27, .ref q35, .ref q42, .ref q58, .ref q78, .ref q86, .ref q94, .ref q102, .ref q110, .ref q118, .ref q126, .ref q134, .null])), (q18, .inl (cI, 210, .inl (fun _ => 0))), (q27, .inl (cI, 210, .inl (fun _ => 0))), (q35, .inl (cI, 70, .inl (fun _ => 0))), (q42, .inl (cI, 2, .inl (upd (upd (fun _ => 0) (zI 0).toNatClampNeg (zI 1)) (zI 1).toNatClampNeg (zI 10)))), (q58, .inl (cI, 3, .inl (upd (upd (upd (fun _ => 0) (zI 0).toNatClampNeg (zI 1)) (zI 1).toNatClampNeg (zI 0)) (zI 2).toNatClampNeg (zI 0)))), (q78, .inl (cI, 6, .inl (fun _ => 0))), (q86, .inl (cI, 12, .inl (fun _ => 0))), (q94, .inl (cI, 30, .inl (fun _ => 0))), (q102, .inl (cI, 10, .inl (fun _ => 0))), (q110, .inl (cI, 10, .inl (fun _ => 0))), (q118, .inl (cI, 7, .inl (fun _ => 0))), (q126, .inl (cI, 10, .inl (fun _ => 0))), (q134, .inl (cI, 10, .inl (fun _ => 0))), (q142, .inl (cI, 30, .inl (fun _ => 0)))] H := hP
  have hD : va_D A [(h0, .inr (0, [.int (zI 1), .int (zI 1), .ref q18, .ref q27, .ref q35, .ref q42, .ref q58, .ref q78, .ref q86, .ref q94, .ref q102, .ref q110, .ref q118, .ref q126, .ref q134, .null])), (q18, .inl (cI, 210, .inl (fun _ => 0))), (q27, .inl (cI, 210, .inl (fun _ => 0))), (q35, .inl (cI, 70, .inl (fun _ => 0))), (q42, .inl (cI, 2, .inl (upd (upd (fun _ => 0) (zI 0).toNatClampNeg (zI 1)) (zI 1).toNatClampNeg (zI 10)))), (q58, .inl (cI, 3, .inl (upd (upd (upd (fun _ => 0) (zI 0).toNatClampNeg (zI 1)) (zI 1).toNatClampNeg (zI 0)) (zI 2).toNatClampNeg (zI 0)))), (q78, .inl (cI, 6, .inl (fun _ => 0))), (q86, .inl (cI, 12, .inl (fun _ => 0))), (q94, .inl (cI, 30, .inl (fun _ => 0))), (q102, .inl (cI, 10, .inl (fun _ => 0))), (q110, .inl (cI, 10, .inl (fun _ => 0))), (q118, .inl (cI, 7, .inl (fun _ => 0))), (q126, .inl (cI, 10, .inl (fun _ => 0))), (q134, .inl (cI, 10, .inl (fun _ => 0))), (q142, .inl (cI, 30, .inl (fun _ => 0)))] := hD
  refine W.widen (k := 14) (n := 620) (by omega) (by omega) ?_
  refine va_putF (D := (dC, dI)) (ci := 0) (v := .ref q142) (ty := .array .int) (C := RX0) (T := TX0) (N := 16) hx hb hts inX0_init tyX0 tyX0_ok nmX0 hown hK hP hD hS 0 rfl rfl 15 (by decide) (hts (.fieldLink RX0 56 "PianoJury" "fitting" "[I") (by decide +kernel)) (fun _ h9 => h9) rfl hin rfl (by decide +kernel) rfl rfl (Nat.le_of_ble_eq_true rfl) dX0_init_144 (fun H locs hP hD hS => ?_)
  have hP : va_P (dC, dI) vwCl [(h0, .inr (0, [.int (zI 1), .int (zI 1), .ref q18, .ref q27, .ref q35, .ref q42, .ref q58, .ref q78, .ref q86, .ref q94, .ref q102, .ref q110, .ref q118, .ref q126, .ref q134, .ref q142])), (q18, .inl (cI, 210, .inl (fun _ => 0))), (q27, .inl (cI, 210, .inl (fun _ => 0))), (q35, .inl (cI, 70, .inl (fun _ => 0))), (q42, .inl (cI, 2, .inl (upd (upd (fun _ => 0) (zI 0).toNatClampNeg (zI 1)) (zI 1).toNatClampNeg (zI 10)))), (q58, .inl (cI, 3, .inl (upd (upd (upd (fun _ => 0) (zI 0).toNatClampNeg (zI 1)) (zI 1).toNatClampNeg (zI 0)) (zI 2).toNatClampNeg (zI 0)))), (q78, .inl (cI, 6, .inl (fun _ => 0))), (q86, .inl (cI, 12, .inl (fun _ => 0))), (q94, .inl (cI, 30, .inl (fun _ => 0))), (q102, .inl (cI, 10, .inl (fun _ => 0))), (q110, .inl (cI, 10, .inl (fun _ => 0))), (q118, .inl (cI, 7, .inl (fun _ => 0))), (q126, .inl (cI, 10, .inl (fun _ => 0))), (q134, .inl (cI, 10, .inl (fun _ => 0))), (q142, .inl (cI, 30, .inl (fun _ => 0)))] H := hP
  have hD : va_D A [(h0, .inr (0, [.int (zI 1), .int (zI 1), .ref q18, .ref q27, .ref q35, .ref q42, .ref q58, .ref q78, .ref q86, .ref q94, .ref q102, .ref q110, .ref q118, .ref q126, .ref q134, .ref q142])), (q18, .inl (cI, 210, .inl (fun _ => 0))), (q27, .inl (cI, 210, .inl (fun _ => 0))), (q35, .inl (cI, 70, .inl (fun _ => 0))), (q42, .inl (cI, 2, .inl (upd (upd (fun _ => 0) (zI 0).toNatClampNeg (zI 1)) (zI 1).toNatClampNeg (zI 10)))), (q58, .inl (cI, 3, .inl (upd (upd (upd (fun _ => 0) (zI 0).toNatClampNeg (zI 1)) (zI 1).toNatClampNeg (zI 0)) (zI 2).toNatClampNeg (zI 0)))), (q78, .inl (cI, 6, .inl (fun _ => 0))), (q86, .inl (cI, 12, .inl (fun _ => 0))), (q94, .inl (cI, 30, .inl (fun _ => 0))), (q102, .inl (cI, 10, .inl (fun _ => 0))), (q110, .inl (cI, 10, .inl (fun _ => 0))), (q118, .inl (cI, 7, .inl (fun _ => 0))), (q126, .inl (cI, 10, .inl (fun _ => 0))), (q134, .inl (cI, 10, .inl (fun _ => 0))), (q142, .inl (cI, 30, .inl (fun _ => 0)))] := hD
  refine lv_aload_n hx hb dX0_init_147 rfl (lv_at hl 0 rfl) ?_
  obtain ⟨adf, hadf⟩ : ∃ a : Nat → Nat, (fun k => ([h0, q18, q27, q35, q42, q58, q78, q86, q94, q102, q110, q118, q126, q134, q142] : List Nat).getD k 0) = a := ⟨_, rfl⟩
  have had := ads_of (ws := [(h0, .inr (0, [.int (zI 1), .int (zI 1), .ref q18, .ref q27, .ref q35, .ref q42, .ref q58, .ref q78, .ref q86, .ref q94, .ref q102, .ref q110, .ref q118, .ref q126, .ref q134, .ref q142])), (q18, .inl (cI, 210, .inl (fun _ => 0))), (q27, .inl (cI, 210, .inl (fun _ => 0))), (q35, .inl (cI, 70, .inl (fun _ => 0))), (q42, .inl (cI, 2, .inl (upd (upd (fun _ => 0) (zI 0).toNatClampNeg (zI 1)) (zI 1).toNatClampNeg (zI 10)))), (q58, .inl (cI, 3, .inl (upd (upd (upd (fun _ => 0) (zI 0).toNatClampNeg (zI 1)) (zI 1).toNatClampNeg (zI 0)) (zI 2).toNatClampNeg (zI 0)))), (q78, .inl (cI, 6, .inl (fun _ => 0))), (q86, .inl (cI, 12, .inl (fun _ => 0))), (q94, .inl (cI, 30, .inl (fun _ => 0))), (q102, .inl (cI, 10, .inl (fun _ => 0))), (q110, .inl (cI, 10, .inl (fun _ => 0))), (q118, .inl (cI, 7, .inl (fun _ => 0))), (q126, .inl (cI, 10, .inl (fun _ => 0))), (q134, .inl (cI, 10, .inl (fun _ => 0))), (q142, .inl (cI, 30, .inl (fun _ => 0)))]) (h0 := h0) (sz := s.heap.size) (ad := adf) hD (fun q h => by rw [← hAe] at h; exact h) (fun i hi => by
    rw [← hadf]
    have hi : i < 15 := hi
    match i, hi with
    | 0, _ => exact ⟨_, rfl⟩
    | 1, _ => exact ⟨_, rfl⟩
    | 2, _ => exact ⟨_, rfl⟩
    | 3, _ => exact ⟨_, rfl⟩
    | 4, _ => exact ⟨_, rfl⟩
    | 5, _ => exact ⟨_, rfl⟩
    | 6, _ => exact ⟨_, rfl⟩
    | 7, _ => exact ⟨_, rfl⟩
    | 8, _ => exact ⟨_, rfl⟩
    | 9, _ => exact ⟨_, rfl⟩
    | 10, _ => exact ⟨_, rfl⟩
    | 11, _ => exact ⟨_, rfl⟩
    | 12, _ => exact ⟨_, rfl⟩
    | 13, _ => exact ⟨_, rfl⟩
    | 14, _ => exact ⟨_, rfl⟩
    | i + 15, h => omega) (by rw [← hadf]; rfl) (Nat.succ_pos _)
  have hW : HW (l, dC, dI, cI, cI, adf) GX xI z0 s H := by
    refine HW_of hK (fun k t ht => ?_) had.1
    match k, ht with
    | 0, ht => cases ht; rw [← hadf]; exact hP 0 _ rfl
    | 1, ht => cases ht; rw [← hadf]; exact arr_same (hP 1 _ rfl) (fun j hj => by
        show (0 : Int32) = zI (if 0 ≤ (j : Int) ∧ (j : Int) < 210 then 0 else -1)
        rw [if_pos (by omega)]
        rfl)
    | 2, ht => cases ht; rw [← hadf]; exact arr_same (hP 2 _ rfl) (fun _ _ => rfl)
    | 3, ht => cases ht; rw [← hadf]; exact arr_same (hP 3 _ rfl) (fun _ _ => rfl)
    | 4, ht => cases ht; rw [← hadf]; exact arr_same (hP 4 _ rfl) (fun j hj => by
        match j, hj with
        | 0, _ => rfl
        | 1, _ => rfl
        | j + 2, h => omega)
    | 5, ht => cases ht; rw [← hadf]; exact arr_same (hP 5 _ rfl) (fun j hj => by
        match j, hj with
        | 0, _ => rfl
        | 1, _ => rfl
        | 2, _ => rfl
        | j + 3, h => omega)
    | 6, ht => cases ht; rw [← hadf]; exact arr_same (hP 6 _ rfl) (fun _ _ => rfl)
    | 7, ht => cases ht; rw [← hadf]; exact arr_same (hP 7 _ rfl) (fun j hj => by
        show (0 : Int32) = zI (if 0 ≤ (j : Int) ∧ (j : Int) < 12 then 0 else 10)
        rw [if_pos (by omega)]
        rfl)
    | 8, ht => cases ht; rw [← hadf]; exact arr_same (hP 8 _ rfl) (fun _ _ => rfl)
    | 9, ht => cases ht; rw [← hadf]; exact arr_same (hP 9 _ rfl) (fun _ _ => rfl)
    | 10, ht => cases ht; rw [← hadf]; exact arr_same (hP 10 _ rfl) (fun j hj => by
        show (0 : Int32) = zI (if 0 ≤ (j : Int) ∧ (j : Int) < 10 then 0 else -1)
        rw [if_pos (by omega)]
        rfl)
    | 11, ht => cases ht; rw [← hadf]; exact arr_same (hP 11 _ rfl) (fun _ _ => rfl)
    | 12, ht => cases ht; rw [← hadf]; exact arr_same (hP 12 _ rfl) (fun _ _ => rfl)
    | 13, ht => cases ht; rw [← hadf]; exact arr_same (hP 13 _ rfl) (fun _ _ => rfl)
    | 14, ht => cases ht; rw [← hadf]; exact arr_same (hP 14 _ rfl) (fun _ _ => rfl)
    | k + 15, ht => cases ht
  have hA2 : ∀ q, AA (l, dC, dI, cI, cI, adf) GX q → A q := by
    rintro q ⟨k, hk, rfl⟩
    rw [← hAe]
    by_cases h : k = 0
    · subst h
      exact Or.inl (by rw [← hadf]; rfl)
    · exact Or.inr (had.2 k (by omega) hk)
  have h7 : (.ref q86 : Value) = .ref (eAd (l, dC, dI, cI, cI, adf) 7) := by rw [← hadf]; rfl
  have h00 : (.ref h0 : Value) = .ref (eAd (l, dC, dI, cI, cI, adf) 0) := by rw [← hadf]; rfl
  refine va_get (D := (dC, dI)) (ci := 0) (v := .ref q86) (C := RX0) (T := TX0) (N := 16) hx hb hts inX0_init hown hK hP 0 rfl rfl 8 (by decide) (hts (.fieldLink RX0 35 "PianoJury" "minutes" "[I") (by decide +kernel)) (fun _ h9 => h9) rfl dX0_init_148 ?_
  refine lv_bipush (v := zI 10) hx hb dX0_init_151 (by decide) ?_
  rw [h7]
  refine W_callS (E := (l, dC, dI, cI, cI, adf)) (G := GX) (as := [.ref (eAd (l, dC, dI, cI, cI, adf) 7), .int (zI 10)]) (k2 := kJ7_fill_53178) (n := 2) (d := 1) hx hb hml hown hts hl.1 dX0_init_153 gX0_init_J7_fill_53178 kkJ7_fill_53178 rfl (Nat.le_of_ble_eq_true rfl) ⟨Nat.le_of_ble_eq_true rfl, Nat.le_of_ble_eq_true rfl⟩ ⟨Nat.le_of_ble_eq_true rfl, Nat.le_of_ble_eq_true rfl⟩ hW hS hA2 (Q2 := fun v τ' ζ' => v = none ∧ τ' = fil xI 7 0 12 10 ∧ ζ' = z0) (c_J7_fill_53178 (q := 7) (n := 12) rfl rfl rfl ⟨rfl, rfl, rfl⟩) (fun v τ1 ζ1 H1 locs1 hv hW hz1 hk1 hS => ?_)
  obtain ⟨rfl, rfl, rfl⟩ := hv
  refine lv_aload_n hx hb dX0_init_156 rfl (lv_at hl 0 rfl) ?_
  refine W.eq (g2 := F0 m 157 ls [.ref (eAd (l, dC, dI, cI, cI, adf) 0)]) (congrArg (fun v => F0 m 157 ls [v]) h00) ?_
  refine W_callV (E := (l, dC, dI, cI, cI, adf)) (G := GX) (as := []) (k2 := kX0_clearAll) (n := 0) (d := 3) hx hb hml hown hts hl.1 dX0_init_157 gX0_init_X0_clearAll kkX0_clearAll rfl rfl rfl (Nat.le_of_ble_eq_true rfl) ⟨Nat.le_of_ble_eq_true rfl, Nat.le_of_ble_eq_true rfl⟩ ⟨Nat.le_of_ble_eq_true rfl, Nat.le_of_ble_eq_true rfl⟩ hW hS hA2 (Q2 := fun v τ' ζ' => v = none ∧ τ' = x0 ∧ ζ' = z0) (c_X0_clearAll (d := 2) ⟨rfl, rfl, rfl⟩) (fun v τ1 ζ1 H1 locs1 hv hW hz1 hk1 hS => ?_)
  obtain ⟨rfl, rfl, rfl⟩ := hv
  exact W.vret hx hb hr (fun t ht hWm => ⟨⟨cI, cI, adf, z0, rfl, by rw [← hadf]; rfl, had.2, va_K.moved hWm.alike hW.1, by rw [ht]; exact hW.2.1, hW.2.2⟩, hS.F ht⟩) hS.2.2 dX0_init_160

theorem inX1_init : ∀ w ∈ wsX10, w ∈ wsX1_init := fun _ h => List.mem_cons_of_mem _ (List.mem_append_right _ h)

/-! THE REFERENCE MADE -/
def fvs (ad : Nat → Nat) (f : Sf) : Nat → List Nat → List Value
  | _, [] => []
  | j, c :: cs => fvl ad f j c :: fvs ad f (j + 1) cs
theorem fvs_eq (ad : Nat → Nat) (f : Sf) : ∀ (l : List Nat) (n : Nat), l.mapIdx (fun j c => fvl ad f (n + j) c) = fvs ad f n l
  | [], n => by
    rw [List.mapIdx_nil]
    rfl
  | c :: l, n => by
    rw [List.mapIdx_cons]
    have h := fvs_eq ad f l (n + 1)
    show fvl ad f (n + 0) c :: l.mapIdx (fun j c => fvl ad f (n + (j + 1)) c) = fvl ad f n c :: fvs ad f (n + 1) l
    rw [← h]
    congr 1
    congr 1
    funext j c
    rw [show n + (j + 1) = n + 1 + j by omega]
theorem fvs_0 (ad : Nat → Nat) (f : Sf) (l : List Nat) : l.mapIdx (fun j c => fvl ad f j c) = fvs ad f 0 l := by
  rw [← fvs_eq ad f l 0]
  congr 1
  funext j c
  rw [Nat.zero_add]
theorem va_at_obj {D : va_G} {cl : List vw_C} {a ci : Nat} {l : List Nat} {H : Heap} {ad : Nat → Nat} {f : Sf} (h : va_at D cl (a, .inr (ci, fvs ad f 0 l)) H) : va_at D cl (a, .inr (ci, l.mapIdx (fun j c => fvl ad f j c))) H := by
  rw [fvs_0]
  exact h
set_option maxHeartbeats 4000000 in
set_option maxRecDepth 100000 in
theorem c_X1_init (l : Launch) (dC : Nat → ClassId) (dI : Nat → Nat → Nat) (h0 sz : Nat) : Met l yX1_init wsX1_init { frames := 8, cells := 11, slots := 580, locals := 600 } (va_Pc [.ref h0] (fun U => U.heap.size = sz ∧ va_P (dC, dI) vwCl [(h0, .inr (1, [.int 0, .int 0, .null, .null, .null, .int 0, .int 0, .null, .null, .null, .null, .null, .int 0, .null, .int 0, .int 0, .null, .int 0, .int 0, .int 0, .int 0, .null, .long 0]))] U.heap ∧ va_K (dC, dI) vwCl [] U ∧ h0 < sz)) (QI h0 l dC dI GM m0 sz) 11 580 (fun q => q = h0 ∨ sz ≤ q) := by
  refine Met.ofW (cc := cX1_init) (maxL := 2) (ret := none) (by decide) rfl ?_
  intro p e s m args below meth c s₁ B hml hv
  obtain ⟨rfl, hsz, hP, hK, hlt⟩ := hv
  have hx := B.exec
  have hb := B.bytes
  have hr := B.returns
  have hts := atoms_spec (ws := wsX1_init) B.pre
  have hown : s.vm.findClass RX1 = some m.cls := findClass_of_methodNamed B.named
  have hlocks := B.notSynchronized
  have hin : meth.name = "<init>" := (name_of_methodNamed B.named B.method).1
  subst hsz
  unfold QI
  generalize hAe : (fun q => q = h0 ∨ s.heap.size ≤ q) = A
  have hA : ∀ q : Nat, s.heap.size ≤ q → A q := fun q h => by rw [← hAe]; exact Or.inr h
  have hS : va_S A s.heap s.heap [] := va_S.rf
  have hP : va_P (dC, dI) vwCl [(h0, .inr (1, [.int 0, .int 0, .null, .null, .null, .int 0, .int 0, .null, .null, .null, .null, .null, .int 0, .null, .int 0, .int 0, .null, .int 0, .int 0, .int 0, .int 0, .null, .long 0]))] s.heap := hP
  have hD : va_D A [(h0, .inr (1, [.int 0, .int 0, .null, .null, .null, .int 0, .int 0, .null, .null, .null, .null, .null, .int 0, .null, .int 0, .int 0, .null, .int 0, .int 0, .int 0, .int 0, .null, .long 0]))] := ⟨fun i j x y hx hy _ => by
    have h1 : i < 1 := (List.getElem?_eq_some_iff.mp hx).1
    have h2 : j < 1 := (List.getElem?_eq_some_iff.mp hy).1
    omega, fun k q hk => by
    have h1 : k < 1 := (List.getElem?_eq_some_iff.mp hk).1
    have h2 : k = 0 := by omega
    subst h2
    cases hk
    rw [← hAe]
    exact Or.inl rfl⟩
  have hl := lv_entry ([.ref h0]) (n := 2) (Nat.le_of_ble_eq_true rfl)
  rw [lg_entry_eq]
  generalize (lg_sl ([.ref h0]) ++ List.replicate (2 - (lg_sl ([.ref h0])).length) Slot.unset).toArray = ls at hl ⊢
  have hl : lv_has ls 2 [(0, .ref h0)] := hl
  refine lv_aload_n hx hb dX1_init_0 rfl (lv_at hl 0 rfl) ?_
  refine W.objInit hx hb hown (hts (.methodLink RX1 1 objectInit) (by decide +kernel)) (hts (.instanceMethod objectInit) (by decide +kernel)) (hts (.code objectInit ⟨#[0xb1]⟩ 1 none) (by decide +kernel)) rfl (by rw [hml]; exact hl.1) rfl dX1_init_1 (Nat.le_of_ble_eq_true rfl) (Nat.le_of_ble_eq_true rfl) ?_
  refine W.eq (g2 := F0 m 4 ls []) rfl ?_
  refine lv_aload_n hx hb dX1_init_4 rfl (lv_at hl 0 rfl) ?_
  refine lv_iconst (v := zI 1) hx hb dX1_init_5 (by decide) ?_
  refine va_put (D := (dC, dI)) (ci := 1) (v := .int (zI 1)) (ty := .int) (C := RX1) (T := TX1) (N := 23) hx hb hts inX1_init tyX1 tyX1_ok nmX1 hown hK hP hD hS 0 rfl rfl 0 (by decide) (hts (.fieldLink RX1 7 "PianoJuryModel" "players" "I") (by decide +kernel)) (fun _ h9 => h9) rfl (by decide +kernel) rfl rfl (Nat.le_of_ble_eq_true rfl) dX1_init_6 (fun H locs hP hD hS => ?_)
  have hP : va_P (dC, dI) vwCl [(h0, .inr (1, [.int (zI 1), .int 0, .null, .null, .null, .int 0, .int 0, .null, .null, .null, .null, .null, .int 0, .null, .int 0, .int 0, .null, .int 0, .int 0, .int 0, .int 0, .null, .long 0]))] H := hP
  have hD : va_D A [(h0, .inr (1, [.int (zI 1), .int 0, .null, .null, .null, .int 0, .int 0, .null, .null, .null, .null, .null, .int 0, .null, .int 0, .int 0, .null, .int 0, .int 0, .int 0, .int 0, .null, .long 0]))] := hD
  refine lv_aload_n hx hb dX1_init_9 rfl (lv_at hl 0 rfl) ?_
  refine lv_iconst (v := zI 1) hx hb dX1_init_10 (by decide) ?_
  refine va_put (D := (dC, dI)) (ci := 1) (v := .int (zI 1)) (ty := .int) (C := RX1) (T := TX1) (N := 23) hx hb hts inX1_init tyX1 tyX1_ok nmX1 hown hK hP hD hS 0 rfl rfl 1 (by decide) (hts (.fieldLink RX1 13 "PianoJuryModel" "jurors" "I") (by decide +kernel)) (fun _ h9 => h9) rfl (by decide +kernel) rfl rfl (Nat.le_of_ble_eq_true rfl) dX1_init_11 (fun H locs hP hD hS => ?_)
  have hP : va_P (dC, dI) vwCl [(h0, .inr (1, [.int (zI 1), .int (zI 1), .null, .null, .null, .int 0, .int 0, .null, .null, .null, .null, .null, .int 0, .null, .int 0, .int 0, .null, .int 0, .int 0, .int 0, .int 0, .null, .long 0]))] H := hP
  have hD : va_D A [(h0, .inr (1, [.int (zI 1), .int (zI 1), .null, .null, .null, .int 0, .int 0, .null, .null, .null, .null, .null, .int 0, .null, .int 0, .int 0, .null, .int 0, .int 0, .int 0, .int 0, .null, .long 0]))] := hD
  refine lv_aload_n hx hb dX1_init_14 rfl (lv_at hl 0 rfl) ?_
  refine lv_sipush (v := zI 210) hx hb dX1_init_15 (by decide) ?_
  refine va_newa (atype := .int) (a0 := (210, .inl (fun _ => 0))) (N' := 210) hx hb (hts (.arrayClass .int) (by decide +kernel)) rfl hK hP hD hS hA (fun _ => rfl) (by decide +kernel) (by decide +kernel) (Nat.le_of_ble_eq_true rfl) (Nat.le_of_ble_eq_true rfl) (Nat.le_of_ble_eq_true rfl) dX1_init_18 (fun q18 cA18 H hK hP hD hS => ?_)
  obtain ⟨cI, e18⟩ : ∃ y, y = cA18 := ⟨_, rfl⟩
  rw [← e18] at hK hP hD
  have hK : va_K (dC, dI) vwCl [(cI, .int)] s := hK
  have hP : va_P (dC, dI) vwCl [(h0, .inr (1, [.int (zI 1), .int (zI 1), .null, .null, .null, .int 0, .int 0, .null, .null, .null, .null, .null, .int 0, .null, .int 0, .int 0, .null, .int 0, .int 0, .int 0, .int 0, .null, .long 0])), (q18, .inl (cI, 210, .inl (fun _ => 0)))] H := hP
  have hD : va_D A [(h0, .inr (1, [.int (zI 1), .int (zI 1), .null, .null, .null, .int 0, .int 0, .null, .null, .null, .null, .null, .int 0, .null, .int 0, .int 0, .null, .int 0, .int 0, .int 0, .int 0, .null, .long 0])), (q18, .inl (cI, 210, .inl (fun _ => 0)))] := hD
  refine W.widen (k := 1) (n := 210) (by omega) (by omega) ?_
  refine va_putF (D := (dC, dI)) (ci := 1) (v := .ref q18) (ty := .array .int) (C := RX1) (T := TX1) (N := 23) hx hb hts inX1_init tyX1 tyX1_ok nmX1 hown hK hP hD hS 0 rfl rfl 2 (by decide) (hts (.fieldLink RX1 16 "PianoJuryModel" "marks" "[I") (by decide +kernel)) (fun _ h9 => h9) rfl hin rfl (by decide +kernel) rfl rfl (Nat.le_of_ble_eq_true rfl) dX1_init_20 (fun H locs hP hD hS => ?_)
  have hP : va_P (dC, dI) vwCl [(h0, .inr (1, [.int (zI 1), .int (zI 1), .ref q18, .null, .null, .int 0, .int 0, .null, .null, .null, .null, .null, .int 0, .null, .int 0, .int 0, .null, .int 0, .int 0, .int 0, .int 0, .null, .long 0])), (q18, .inl (cI, 210, .inl (fun _ => 0)))] H := hP
  have hD : va_D A [(h0, .inr (1, [.int (zI 1), .int (zI 1), .ref q18, .null, .null, .int 0, .int 0, .null, .null, .null, .null, .null, .int 0, .null, .int 0, .int 0, .null, .int 0, .int 0, .int 0, .int 0, .null, .long 0])), (q18, .inl (cI, 210, .inl (fun _ => 0)))] := hD
  refine lv_aload_n hx hb dX1_init_23 rfl (lv_at hl 0 rfl) ?_
  refine lv_sipush (v := zI 210) hx hb dX1_init_24 (by decide) ?_
  refine va_newa (atype := .boolean) (a0 := (210, .inl (fun _ => 0))) (N' := 210) hx hb (hts (.arrayClass .boolean) (by decide +kernel)) rfl hK hP hD hS hA (fun _ => rfl) (by decide +kernel) (by decide +kernel) (Nat.le_of_ble_eq_true rfl) (Nat.le_of_ble_eq_true rfl) (Nat.le_of_ble_eq_true rfl) dX1_init_27 (fun q27 cA27 H hK hP hD hS => ?_)
  obtain ⟨cZ, e27⟩ : ∃ y, y = cA27 := ⟨_, rfl⟩
  rw [← e27] at hK hP hD
  have hK : va_K (dC, dI) vwCl [(cI, .int), (cZ, .boolean)] s := hK
  have hP : va_P (dC, dI) vwCl [(h0, .inr (1, [.int (zI 1), .int (zI 1), .ref q18, .null, .null, .int 0, .int 0, .null, .null, .null, .null, .null, .int 0, .null, .int 0, .int 0, .null, .int 0, .int 0, .int 0, .int 0, .null, .long 0])), (q18, .inl (cI, 210, .inl (fun _ => 0))), (q27, .inl (cZ, 210, .inl (fun _ => 0)))] H := hP
  have hD : va_D A [(h0, .inr (1, [.int (zI 1), .int (zI 1), .ref q18, .null, .null, .int 0, .int 0, .null, .null, .null, .null, .null, .int 0, .null, .int 0, .int 0, .null, .int 0, .int 0, .int 0, .int 0, .null, .long 0])), (q18, .inl (cI, 210, .inl (fun _ => 0))), (q27, .inl (cZ, 210, .inl (fun _ => 0)))] := hD
  refine W.widen (k := 2) (n := 420) (by omega) (by omega) ?_
  refine va_putF (D := (dC, dI)) (ci := 1) (v := .ref q27) (ty := .array .boolean) (C := RX1) (T := TX1) (N := 23) hx hb hts inX1_init tyX1 tyX1_ok nmX1 hown hK hP hD hS 0 rfl rfl 3 (by decide) (hts (.fieldLink RX1 20 "PianoJuryModel" "isYes" "[Z") (by decide +kernel)) (fun _ h9 => h9) rfl hin rfl (by decide +kernel) rfl rfl (Nat.le_of_ble_eq_true rfl) dX1_init_29 (fun H locs hP hD hS => ?_)
  have hP : va_P (dC, dI) vwCl [(h0, .inr (1, [.int (zI 1), .int (zI 1), .ref q18, .ref q27, .null, .int 0, .int 0, .null, .null, .null, .null, .null, .int 0, .null, .int 0, .int 0, .null, .int 0, .int 0, .int 0, .int 0, .null, .long 0])), (q18, .inl (cI, 210, .inl (fun _ => 0))), (q27, .inl (cZ, 210, .inl (fun _ => 0)))] H := hP
  have hD : va_D A [(h0, .inr (1, [.int (zI 1), .int (zI 1), .ref q18, .ref q27, .null, .int 0, .int 0, .null, .null, .null, .null, .null, .int 0, .null, .int 0, .int 0, .null, .int 0, .int 0, .int 0, .int 0, .null, .long 0])), (q18, .inl (cI, 210, .inl (fun _ => 0))), (q27, .inl (cZ, 210, .inl (fun _ => 0)))] := hD
  refine lv_aload_n hx hb dX1_init_32 rfl (lv_at hl 0 rfl) ?_
  refine lv_bipush (v := zI 70) hx hb dX1_init_33 (by decide) ?_
  refine va_newa (atype := .boolean) (a0 := (70, .inl (fun _ => 0))) (N' := 70) hx hb (hts (.arrayClass .boolean) (by decide +kernel)) rfl hK hP hD hS hA (fun _ => rfl) (by decide +kernel) (by decide +kernel) (Nat.le_of_ble_eq_true rfl) (Nat.le_of_ble_eq_true rfl) (Nat.le_of_ble_eq_true rfl) dX1_init_35 (fun q35 cA35 H hK hP hD hS => ?_)
  have e35 : cA35 = cZ := Option.some.inj ((hK.2 2 (cA35, .boolean) rfl).2.symm.trans (hK.2 1 (cZ, .boolean) rfl).2)
  rw [e35] at hK hP hD
  have hK : va_K (dC, dI) vwCl [(cI, .int), (cZ, .boolean)] s := hK.sub [0, 1] rfl
  have hP : va_P (dC, dI) vwCl [(h0, .inr (1, [.int (zI 1), .int (zI 1), .ref q18, .ref q27, .null, .int 0, .int 0, .null, .null, .null, .null, .null, .int 0, .null, .int 0, .int 0, .null, .int 0, .int 0, .int 0, .int 0, .null, .long 0])), (q18, .inl (cI, 210, .inl (fun _ => 0))), (q27, .inl (cZ, 210, .inl (fun _ => 0))), (q35, .inl (cZ, 70, .inl (fun _ => 0)))] H := hP
  have hD : va_D A [(h0, .inr (1, [.int (zI 1), .int (zI 1), .ref q18, .ref q27, .null, .int 0, .int 0, .null, .null, .null, .null, .null, .int 0, .null, .int 0, .int 0, .null, .int 0, .int 0, .int 0, .int 0, .null, .long 0])), (q18, .inl (cI, 210, .inl (fun _ => 0))), (q27, .inl (cZ, 210, .inl (fun _ => 0))), (q35, .inl (cZ, 70, .inl (fun _ => 0)))] := hD
  refine W.widen (k := 3) (n := 490) (by omega) (by omega) ?_
  refine va_putF (D := (dC, dI)) (ci := 1) (v := .ref q35) (ty := .array .boolean) (C := RX1) (T := TX1) (N := 23) hx hb hts inX1_init tyX1 tyX1_ok nmX1 hown hK hP hD hS 0 rfl rfl 4 (by decide) (hts (.fieldLink RX1 24 "PianoJuryModel" "isPupil" "[Z") (by decide +kernel)) (fun _ h9 => h9) rfl hin rfl (by decide +kernel) rfl rfl (Nat.le_of_ble_eq_true rfl) dX1_init_37 (fun H locs hP hD hS => ?_)
  have hP : va_P (dC, dI) vwCl [(h0, .inr (1, [.int (zI 1), .int (zI 1), .ref q18, .ref q27, .ref q35, .int 0, .int 0, .null, .null, .null, .null, .null, .int 0, .null, .int 0, .int 0, .null, .int 0, .int 0, .int 0, .int 0, .null, .long 0])), (q18, .inl (cI, 210, .inl (fun _ => 0))), (q27, .inl (cZ, 210, .inl (fun _ => 0))), (q35, .inl (cZ, 70, .inl (fun _ => 0)))] H := hP
  have hD : va_D A [(h0, .inr (1, [.int (zI 1), .int (zI 1), .ref q18, .ref q27, .ref q35, .int 0, .int 0, .null, .null, .null, .null, .null, .int 0, .null, .int 0, .int 0, .null, .int 0, .int 0, .int 0, .int 0, .null, .long 0])), (q18, .inl (cI, 210, .inl (fun _ => 0))), (q27, .inl (cZ, 210, .inl (fun _ => 0))), (q35, .inl (cZ, 70, .inl (fun _ => 0)))] := hD
  refine lv_aload_n hx hb dX1_init_40 rfl (lv_at hl 0 rfl) ?_
  refine lv_iconst (v := zI 1) hx hb dX1_init_41 (by decide) ?_
  refine va_put (D := (dC, dI)) (ci := 1) (v := .int (zI 1)) (ty := .int) (C := RX1) (T := TX1) (N := 23) hx hb hts inX1_init tyX1 tyX1_ok nmX1 hown hK hP hD hS 0 rfl rfl 5 (by decide) (hts (.fieldLink RX1 27 "PianoJuryModel" "cuts" "I") (by decide +kernel)) (fun _ h9 => h9) rfl (by decide +kernel) rfl rfl (Nat.le_of_ble_eq_true rfl) dX1_init_42 (fun H locs hP hD hS => ?_)
  have hP : va_P (dC, dI) vwCl [(h0, .inr (1, [.int (zI 1), .int (zI 1), .ref q18, .ref q27, .ref q35, .int (zI 1), .int 0, .null, .null, .null, .null, .null, .int 0, .null, .int 0, .int 0, .null, .int 0, .int 0, .int 0, .int 0, .null, .long 0])), (q18, .inl (cI, 210, .inl (fun _ => 0))), (q27, .inl (cZ, 210, .inl (fun _ => 0))), (q35, .inl (cZ, 70, .inl (fun _ => 0)))] H := hP
  have hD : va_D A [(h0, .inr (1, [.int (zI 1), .int (zI 1), .ref q18, .ref q27, .ref q35, .int (zI 1), .int 0, .null, .null, .null, .null, .null, .int 0, .null, .int 0, .int 0, .null, .int 0, .int 0, .int 0, .int 0, .null, .long 0])), (q18, .inl (cI, 210, .inl (fun _ => 0))), (q27, .inl (cZ, 210, .inl (fun _ => 0))), (q35, .inl (cZ, 70, .inl (fun _ => 0)))] := hD
  refine lv_aload_n hx hb dX1_init_45 rfl (lv_at hl 0 rfl) ?_
  refine lv_bipush (v := zI 10) hx hb dX1_init_46 (by decide) ?_
  refine va_put (D := (dC, dI)) (ci := 1) (v := .int (zI 10)) (ty := .int) (C := RX1) (T := TX1) (N := 23) hx hb hts inX1_init tyX1 tyX1_ok nmX1 hown hK hP hD hS 0 rfl rfl 6 (by decide) (hts (.fieldLink RX1 30 "PianoJuryModel" "pull" "I") (by decide +kernel)) (fun _ h9 => h9) rfl (by decide +kernel) rfl rfl (Nat.le_of_ble_eq_true rfl) dX1_init_48 (fun H locs hP hD hS => ?_)
  have hP : va_P (dC, dI) vwCl [(h0, .inr (1, [.int (zI 1), .int (zI 1), .ref q18, .ref q27, .ref q35, .int (zI 1), .int (zI 10), .null, .null, .null, .null, .null, .int 0, .null, .int 0, .int 0, .null, .int 0, .int 0, .int 0, .int 0, .null, .long 0])), (q18, .inl (cI, 210, .inl (fun _ => 0))), (q27, .inl (cZ, 210, .inl (fun _ => 0))), (q35, .inl (cZ, 70, .inl (fun _ => 0)))] H := hP
  have hD : va_D A [(h0, .inr (1, [.int (zI 1), .int (zI 1), .ref q18, .ref q27, .ref q35, .int (zI 1), .int (zI 10), .null, .null, .null, .null, .null, .int 0, .null, .int 0, .int 0, .null, .int 0, .int 0, .int 0, .int 0, .null, .long 0])), (q18, .inl (cI, 210, .inl (fun _ => 0))), (q27, .inl (cZ, 210, .inl (fun _ => 0))), (q35, .inl (cZ, 70, .inl (fun _ => 0)))] := hD
  refine lv_aload_n hx hb dX1_init_51 rfl (lv_at hl 0 rfl) ?_
  refine lv_iconst (v := zI 3) hx hb dX1_init_52 (by decide) ?_
  refine va_newa (atype := .int) (a0 := (3, .inl (fun _ => 0))) (N' := 3) hx hb (hts (.arrayClass .int) (by decide +kernel)) rfl hK hP hD hS hA (fun _ => rfl) (by decide +kernel) (by decide +kernel) (Nat.le_of_ble_eq_true rfl) (Nat.le_of_ble_eq_true rfl) (Nat.le_of_ble_eq_true rfl) dX1_init_53 (fun q53 cA53 H hK hP hD hS => ?_)
  have e53 : cA53 = cI := Option.some.inj ((hK.2 2 (cA53, .int) rfl).2.symm.trans (hK.2 0 (cI, .int) rfl).2)
  rw [e53] at hK hP hD
  have hK : va_K (dC, dI) vwCl [(cI, .int), (cZ, .boolean)] s := hK.sub [0, 1] rfl
  have hP : va_P (dC, dI) vwCl [(h0, .inr (1, [.int (zI 1), .int (zI 1), .ref q18, .ref q27, .ref q35, .int (zI 1), .int (zI 10), .null, .null, .null, .null, .null, .int 0, .null, .int 0, .int 0, .null, .int 0, .int 0, .int 0, .int 0, .null, .long 0])), (q18, .inl (cI, 210, .inl (fun _ => 0))), (q27, .inl (cZ, 210, .inl (fun _ => 0))), (q35, .inl (cZ, 70, .inl (fun _ => 0))), (q53, .inl (cI, 3, .inl (fun _ => 0)))] H := hP
  have hD : va_D A [(h0, .inr (1, [.int (zI 1), .int (zI 1), .ref q18, .ref q27, .ref q35, .int (zI 1), .int (zI 10), .null, .null, .null, .null, .null, .int 0, .null, .int 0, .int 0, .null, .int 0, .int 0, .int 0, .int 0, .null, .long 0])), (q18, .inl (cI, 210, .inl (fun _ => 0))), (q27, .inl (cZ, 210, .inl (fun _ => 0))), (q35, .inl (cZ, 70, .inl (fun _ => 0))), (q53, .inl (cI, 3, .inl (fun _ => 0)))] := hD
  refine W.widen (k := 4) (n := 493) (by omega) (by omega) ?_
  refine va_putF (D := (dC, dI)) (ci := 1) (v := .ref q53) (ty := .array .int) (C := RX1) (T := TX1) (N := 23) hx hb hts inX1_init tyX1 tyX1_ok nmX1 hown hK hP hD hS 0 rfl rfl 7 (by decide) (hts (.fieldLink RX1 33 "PianoJuryModel" "weights" "[I") (by decide +kernel)) (fun _ h9 => h9) rfl hin rfl (by decide +kernel) rfl rfl (Nat.le_of_ble_eq_true rfl) dX1_init_55 (fun H locs hP hD hS => ?_)
  have hP : va_P (dC, dI) vwCl [(h0, .inr (1, [.int (zI 1), .int (zI 1), .ref q18, .ref q27, .ref q35, .int (zI 1), .int (zI 10), .ref q53, .null, .null, .null, .null, .int 0, .null, .int 0, .int 0, .null, .int 0, .int 0, .int 0, .int 0, .null, .long 0])), (q18, .inl (cI, 210, .inl (fun _ => 0))), (q27, .inl (cZ, 210, .inl (fun _ => 0))), (q35, .inl (cZ, 70, .inl (fun _ => 0))), (q53, .inl (cI, 3, .inl (fun _ => 0)))] H := hP
  have hD : va_D A [(h0, .inr (1, [.int (zI 1), .int (zI 1), .ref q18, .ref q27, .ref q35, .int (zI 1), .int (zI 10), .ref q53, .null, .null, .null, .null, .int 0, .null, .int 0, .int 0, .null, .int 0, .int 0, .int 0, .int 0, .null, .long 0])), (q18, .inl (cI, 210, .inl (fun _ => 0))), (q27, .inl (cZ, 210, .inl (fun _ => 0))), (q35, .inl (cZ, 70, .inl (fun _ => 0))), (q53, .inl (cI, 3, .inl (fun _ => 0)))] := hD
  refine lv_aload_n hx hb dX1_init_58 rfl (lv_at hl 0 rfl) ?_
  refine lv_bipush (v := zI 6) hx hb dX1_init_59 (by decide) ?_
  refine va_newa (atype := .int) (a0 := (6, .inl (fun _ => 0))) (N' := 6) hx hb (hts (.arrayClass .int) (by decide +kernel)) rfl hK hP hD hS hA (fun _ => rfl) (by decide +kernel) (by decide +kernel) (Nat.le_of_ble_eq_true rfl) (Nat.le_of_ble_eq_true rfl) (Nat.le_of_ble_eq_true rfl) dX1_init_61 (fun q61 cA61 H hK hP hD hS => ?_)
  have e61 : cA61 = cI := Option.some.inj ((hK.2 2 (cA61, .int) rfl).2.symm.trans (hK.2 0 (cI, .int) rfl).2)
  rw [e61] at hK hP hD
  have hK : va_K (dC, dI) vwCl [(cI, .int), (cZ, .boolean)] s := hK.sub [0, 1] rfl
  have hP : va_P (dC, dI) vwCl [(h0, .inr (1, [.int (zI 1), .int (zI 1), .ref q18, .ref q27, .ref q35, .int (zI 1), .int (zI 10), .ref q53, .null, .null, .null, .null, .int 0, .null, .int 0, .int 0, .null, .int 0, .int 0, .int 0, .int 0, .null, .long 0])), (q18, .inl (cI, 210, .inl (fun _ => 0))), (q27, .inl (cZ, 210, .inl (fun _ => 0))), (q35, .inl (cZ, 70, .inl (fun _ => 0))), (q53, .inl (cI, 3, .inl (fun _ => 0))), (q61, .inl (cI, 6, .inl (fun _ => 0)))] H := hP
  have hD : va_D A [(h0, .inr (1, [.int (zI 1), .int (zI 1), .ref q18, .ref q27, .ref q35, .int (zI 1), .int (zI 10), .ref q53, .null, .null, .null, .null, .int 0, .null, .int 0, .int 0, .null, .int 0, .int 0, .int 0, .int 0, .null, .long 0])), (q18, .inl (cI, 210, .inl (fun _ => 0))), (q27, .inl (cZ, 210, .inl (fun _ => 0))), (q35, .inl (cZ, 70, .inl (fun _ => 0))), (q53, .inl (cI, 3, .inl (fun _ => 0))), (q61, .inl (cI, 6, .inl (fun _ => 0)))] := hD
  refine W.widen (k := 5) (n := 499) (by omega) (by omega) ?_
  refine va_putF (D := (dC, dI)) (ci := 1) (v := .ref q61) (ty := .array .int) (C := RX1) (T := TX1) (N := 23) hx hb hts inX1_init tyX1 tyX1_ok nmX1 hown hK hP hD hS 0 rfl rfl 8 (by decide) (hts (.fieldLink RX1 36 "PianoJuryModel" "prizes" "[I") (by decide +kernel)) (fun _ h9 => h9) rfl hin rfl (by decide +kernel) rfl rfl (Nat.le_of_ble_eq_true rfl) dX1_init_63 (fun H locs hP hD hS => ?_)
  have hP : va_P (dC, dI) vwCl [(h0, .inr (1, [.int (zI 1), .int (zI 1), .ref q18, .ref q27, .ref q35, .int (zI 1), .int (zI 10), .ref q53, .ref q61, .null, .null, .null, .int 0, .null, .int 0, .int 0, .null, .int 0, .int 0, .int 0, .int 0, .null, .long 0])), (q18, .inl (cI, 210, .inl (fun _ => 0))), (q27, .inl (cZ, 210, .inl (fun _ => 0))), (q35, .inl (cZ, 70, .inl (fun _ => 0))), (q53, .inl (cI, 3, .inl (fun _ => 0))), (q61, .inl (cI, 6, .inl (fun _ => 0)))] H := hP
  have hD : va_D A [(h0, .inr (1, [.int (zI 1), .int (zI 1), .ref q18, .ref q27, .ref q35, .int (zI 1), .int (zI 10), .ref q53, .ref q61, .null, .null, .null, .int 0, .null, .int 0, .int 0, .null, .int 0, .int 0, .int 0, .int 0, .null, .long 0])), (q18, .inl (cI, 210, .inl (fun _ => 0))), (q27, .inl (cZ, 210, .inl (fun _ => 0))), (q35, .inl (cZ, 70, .inl (fun _ => 0))), (q53, .inl (cI, 3, .inl (fun _ => 0))), (q61, .inl (cI, 6, .inl (fun _ => 0)))] := hD
  refine lv_aload_n hx hb dX1_init_66 rfl (lv_at hl 0 rfl) ?_
  refine lv_bipush (v := zI 12) hx hb dX1_init_67 (by decide) ?_
  refine va_newa (atype := .int) (a0 := (12, .inl (fun _ => 0))) (N' := 12) hx hb (hts (.arrayClass .int) (by decide +kernel)) rfl hK hP hD hS hA (fun _ => rfl) (by decide +kernel) (by decide +kernel) (Nat.le_of_ble_eq_true rfl) (Nat.le_of_ble_eq_true rfl) (Nat.le_of_ble_eq_true rfl) dX1_init_69 (fun q69 cA69 H hK hP hD hS => ?_)
  have e69 : cA69 = cI := Option.some.inj ((hK.2 2 (cA69, .int) rfl).2.symm.trans (hK.2 0 (cI, .int) rfl).2)
  rw [e69] at hK hP hD
  have hK : va_K (dC, dI) vwCl [(cI, .int), (cZ, .boolean)] s := hK.sub [0, 1] rfl
  have hP : va_P (dC, dI) vwCl [(h0, .inr (1, [.int (zI 1), .int (zI 1), .ref q18, .ref q27, .ref q35, .int (zI 1), .int (zI 10), .ref q53, .ref q61, .null, .null, .null, .int 0, .null, .int 0, .int 0, .null, .int 0, .int 0, .int 0, .int 0, .null, .long 0])), (q18, .inl (cI, 210, .inl (fun _ => 0))), (q27, .inl (cZ, 210, .inl (fun _ => 0))), (q35, .inl (cZ, 70, .inl (fun _ => 0))), (q53, .inl (cI, 3, .inl (fun _ => 0))), (q61, .inl (cI, 6, .inl (fun _ => 0))), (q69, .inl (cI, 12, .inl (fun _ => 0)))] H := hP
  have hD : va_D A [(h0, .inr (1, [.int (zI 1), .int (zI 1), .ref q18, .ref q27, .ref q35, .int (zI 1), .int (zI 10), .ref q53, .ref q61, .null, .null, .null, .int 0, .null, .int 0, .int 0, .null, .int 0, .int 0, .int 0, .int 0, .null, .long 0])), (q18, .inl (cI, 210, .inl (fun _ => 0))), (q27, .inl (cZ, 210, .inl (fun _ => 0))), (q35, .inl (cZ, 70, .inl (fun _ => 0))), (q53, .inl (cI, 3, .inl (fun _ => 0))), (q61, .inl (cI, 6, .inl (fun _ => 0))), (q69, .inl (cI, 12, .inl (fun _ => 0)))] := hD
  refine W.widen (k := 6) (n := 511) (by omega) (by omega) ?_
  refine va_putF (D := (dC, dI)) (ci := 1) (v := .ref q69) (ty := .array .int) (C := RX1) (T := TX1) (N := 23) hx hb hts inX1_init tyX1 tyX1_ok nmX1 hown hK hP hD hS 0 rfl rfl 9 (by decide) (hts (.fieldLink RX1 39 "PianoJuryModel" "minutes" "[I") (by decide +kernel)) (fun _ h9 => h9) rfl hin rfl (by decide +kernel) rfl rfl (Nat.le_of_ble_eq_true rfl) dX1_init_71 (fun H locs hP hD hS => ?_)
  have hP : va_P (dC, dI) vwCl [(h0, .inr (1, [.int (zI 1), .int (zI 1), .ref q18, .ref q27, .ref q35, .int (zI 1), .int (zI 10), .ref q53, .ref q61, .ref q69, .null, .null, .int 0, .null, .int 0, .int 0, .null, .int 0, .int 0, .int 0, .int 0, .null, .long 0])), (q18, .inl (cI, 210, .inl (fun _ => 0))), (q27, .inl (cZ, 210, .inl (fun _ => 0))), (q35, .inl (cZ, 70, .inl (fun _ => 0))), (q53, .inl (cI, 3, .inl (fun _ => 0))), (q61, .inl (cI, 6, .inl (fun _ => 0))), (q69, .inl (cI, 12, .inl (fun _ => 0)))] H := hP
  have hD : va_D A [(h0, .inr (1, [.int (zI 1), .int (zI 1), .ref q18, .ref q27, .ref q35, .int (zI 1), .int (zI 10), .ref q53, .ref q61, .ref q69, .null, .null, .int 0, .null, .int 0, .int 0, .null, .int 0, .int 0, .int 0, .int 0, .null, .long 0])), (q18, .inl (cI, 210, .inl (fun _ => 0))), (q27, .inl (cZ, 210, .inl (fun _ => 0))), (q35, .inl (cZ, 70, .inl (fun _ => 0))), (q53, .inl (cI, 3, .inl (fun _ => 0))), (q61, .inl (cI, 6, .inl (fun _ => 0))), (q69, .inl (cI, 12, .inl (fun _ => 0)))] := hD
  refine lv_aload_n hx hb dX1_init_74 rfl (lv_at hl 0 rfl) ?_
  refine lv_bipush (v := zI 10) hx hb dX1_init_75 (by decide) ?_
  refine va_newa (atype := .int) (a0 := (10, .inl (fun _ => 0))) (N' := 10) hx hb (hts (.arrayClass .int) (by decide +kernel)) rfl hK hP hD hS hA (fun _ => rfl) (by decide +kernel) (by decide +kernel) (Nat.le_of_ble_eq_true rfl) (Nat.le_of_ble_eq_true rfl) (Nat.le_of_ble_eq_true rfl) dX1_init_77 (fun q77 cA77 H hK hP hD hS => ?_)
  have e77 : cA77 = cI := Option.some.inj ((hK.2 2 (cA77, .int) rfl).2.symm.trans (hK.2 0 (cI, .int) rfl).2)
  rw [e77] at hK hP hD
  have hK : va_K (dC, dI) vwCl [(cI, .int), (cZ, .boolean)] s := hK.sub [0, 1] rfl
  have hP : va_P (dC, dI) vwCl [(h0, .inr (1, [.int (zI 1), .int (zI 1), .ref q18, .ref q27, .ref q35, .int (zI 1), .int (zI 10), .ref q53, .ref q61, .ref q69, .null, .null, .int 0, .null, .int 0, .int 0, .null, .int 0, .int 0, .int 0, .int 0, .null, .long 0])), (q18, .inl (cI, 210, .inl (fun _ => 0))), (q27, .inl (cZ, 210, .inl (fun _ => 0))), (q35, .inl (cZ, 70, .inl (fun _ => 0))), (q53, .inl (cI, 3, .inl (fun _ => 0))), (q61, .inl (cI, 6, .inl (fun _ => 0))), (q69, .inl (cI, 12, .inl (fun _ => 0))), (q77, .inl (cI, 10, .inl (fun _ => 0)))] H := hP
  have hD : va_D A [(h0, .inr (1, [.int (zI 1), .int (zI 1), .ref q18, .ref q27, .ref q35, .int (zI 1), .int (zI 10), .ref q53, .ref q61, .ref q69, .null, .null, .int 0, .null, .int 0, .int 0, .null, .int 0, .int 0, .int 0, .int 0, .null, .long 0])), (q18, .inl (cI, 210, .inl (fun _ => 0))), (q27, .inl (cZ, 210, .inl (fun _ => 0))), (q35, .inl (cZ, 70, .inl (fun _ => 0))), (q53, .inl (cI, 3, .inl (fun _ => 0))), (q61, .inl (cI, 6, .inl (fun _ => 0))), (q69, .inl (cI, 12, .inl (fun _ => 0))), (q77, .inl (cI, 10, .inl (fun _ => 0)))] := hD
  refine W.widen (k := 7) (n := 521) (by omega) (by omega) ?_
  refine va_putF (D := (dC, dI)) (ci := 1) (v := .ref q77) (ty := .array .int) (C := RX1) (T := TX1) (N := 23) hx hb hts inX1_init tyX1 tyX1_ok nmX1 hown hK hP hD hS 0 rfl rfl 10 (by decide) (hts (.fieldLink RX1 42 "PianoJuryModel" "programmes" "[I") (by decide +kernel)) (fun _ h9 => h9) rfl hin rfl (by decide +kernel) rfl rfl (Nat.le_of_ble_eq_true rfl) dX1_init_79 (fun H locs hP hD hS => ?_)
  have hP : va_P (dC, dI) vwCl [(h0, .inr (1, [.int (zI 1), .int (zI 1), .ref q18, .ref q27, .ref q35, .int (zI 1), .int (zI 10), .ref q53, .ref q61, .ref q69, .ref q77, .null, .int 0, .null, .int 0, .int 0, .null, .int 0, .int 0, .int 0, .int 0, .null, .long 0])), (q18, .inl (cI, 210, .inl (fun _ => 0))), (q27, .inl (cZ, 210, .inl (fun _ => 0))), (q35, .inl (cZ, 70, .inl (fun _ => 0))), (q53, .inl (cI, 3, .inl (fun _ => 0))), (q61, .inl (cI, 6, .inl (fun _ => 0))), (q69, .inl (cI, 12, .inl (fun _ => 0))), (q77, .inl (cI, 10, .inl (fun _ => 0)))] H := hP
  have hD : va_D A [(h0, .inr (1, [.int (zI 1), .int (zI 1), .ref q18, .ref q27, .ref q35, .int (zI 1), .int (zI 10), .ref q53, .ref q61, .ref q69, .ref q77, .null, .int 0, .null, .int 0, .int 0, .null, .int 0, .int 0, .int 0, .int 0, .null, .long 0])), (q18, .inl (cI, 210, .inl (fun _ => 0))), (q27, .inl (cZ, 210, .inl (fun _ => 0))), (q35, .inl (cZ, 70, .inl (fun _ => 0))), (q53, .inl (cI, 3, .inl (fun _ => 0))), (q61, .inl (cI, 6, .inl (fun _ => 0))), (q69, .inl (cI, 12, .inl (fun _ => 0))), (q77, .inl (cI, 10, .inl (fun _ => 0)))] := hD
  refine lv_aload_n hx hb dX1_init_82 rfl (lv_at hl 0 rfl) ?_
  refine lv_bipush (v := zI 30) hx hb dX1_init_83 (by decide) ?_
  refine va_newa (atype := .int) (a0 := (30, .inl (fun _ => 0))) (N' := 30) hx hb (hts (.arrayClass .int) (by decide +kernel)) rfl hK hP hD hS hA (fun _ => rfl) (by decide +kernel) (by decide +kernel) (Nat.le_of_ble_eq_true rfl) (Nat.le_of_ble_eq_true rfl) (Nat.le_of_ble_eq_true rfl) dX1_init_85 (fun q85 cA85 H hK hP hD hS => ?_)
  have e85 : cA85 = cI := Option.some.inj ((hK.2 2 (cA85, .int) rfl).2.symm.trans (hK.2 0 (cI, .int) rfl).2)
  rw [e85] at hK hP hD
  have hK : va_K (dC, dI) vwCl [(cI, .int), (cZ, .boolean)] s := hK.sub [0, 1] rfl
  have hP : va_P (dC, dI) vwCl [(h0, .inr (1, [.int (zI 1), .int (zI 1), .ref q18, .ref q27, .ref q35, .int (zI 1), .int (zI 10), .ref q53, .ref q61, .ref q69, .ref q77, .null, .int 0, .null, .int 0, .int 0, .null, .int 0, .int 0, .int 0, .int 0, .null, .long 0])), (q18, .inl (cI, 210, .inl (fun _ => 0))), (q27, .inl (cZ, 210, .inl (fun _ => 0))), (q35, .inl (cZ, 70, .inl (fun _ => 0))), (q53, .inl (cI, 3, .inl (fun _ => 0))), (q61, .inl (cI, 6, .inl (fun _ => 0))), (q69, .inl (cI, 12, .inl (fun _ => 0))), (q77, .inl (cI, 10, .inl (fun _ => 0))), (q85, .inl (cI, 30, .inl (fun _ => 0)))] H := hP
  have hD : va_D A [(h0, .inr (1, [.int (zI 1), .int (zI 1), .ref q18, .ref q27, .ref q35, .int (zI 1), .int (zI 10), .ref q53, .ref q61, .ref q69, .ref q77, .null, .int 0, .null, .int 0, .int 0, .null, .int 0, .int 0, .int 0, .int 0, .null, .long 0])), (q18, .inl (cI, 210, .inl (fun _ => 0))), (q27, .inl (cZ, 210, .inl (fun _ => 0))), (q35, .inl (cZ, 70, .inl (fun _ => 0))), (q53, .inl (cI, 3, .inl (fun _ => 0))), (q61, .inl (cI, 6, .inl (fun _ => 0))), (q69, .inl (cI, 12, .inl (fun _ => 0))), (q77, .inl (cI, 10, .inl (fun _ => 0))), (q85, .inl (cI, 30, .inl (fun _ => 0)))] := hD
  refine W.widen (k := 8) (n := 551) (by omega) (by omega) ?_
  refine va_putF (D := (dC, dI)) (ci := 1) (v := .ref q85) (ty := .array .int) (C := RX1) (T := TX1) (N := 23) hx hb hts inX1_init tyX1 tyX1_ok nmX1 hown hK hP hD hS 0 rfl rfl 11 (by decide) (hts (.fieldLink RX1 45 "PianoJuryModel" "worksOf" "[I") (by decide +kernel)) (fun _ h9 => h9) rfl hin rfl (by decide +kernel) rfl rfl (Nat.le_of_ble_eq_true rfl) dX1_init_87 (fun H locs hP hD hS => ?_)
  have hP : va_P (dC, dI) vwCl [(h0, .inr (1, [.int (zI 1), .int (zI 1), .ref q18, .ref q27, .ref q35, .int (zI 1), .int (zI 10), .ref q53, .ref q61, .ref q69, .ref q77, .ref q85, .int 0, .null, .int 0, .int 0, .null, .int 0, .int 0, .int 0, .int 0, .null, .long 0])), (q18, .inl (cI, 210, .inl (fun _ => 0))), (q27, .inl (cZ, 210, .inl (fun _ => 0))), (q35, .inl (cZ, 70, .inl (fun _ => 0))), (q53, .inl (cI, 3, .inl (fun _ => 0))), (q61, .inl (cI, 6, .inl (fun _ => 0))), (q69, .inl (cI, 12, .inl (fun _ => 0))), (q77, .inl (cI, 10, .inl (fun _ => 0))), (q85, .inl (cI, 30, .inl (fun _ => 0)))] H := hP
  have hD : va_D A [(h0, .inr (1, [.int (zI 1), .int (zI 1), .ref q18, .ref q27, .ref q35, .int (zI 1), .int (zI 10), .ref q53, .ref q61, .ref q69, .ref q77, .ref q85, .int 0, .null, .int 0, .int 0, .null, .int 0, .int 0, .int 0, .int 0, .null, .long 0])), (q18, .inl (cI, 210, .inl (fun _ => 0))), (q27, .inl (cZ, 210, .inl (fun _ => 0))), (q35, .inl (cZ, 70, .inl (fun _ => 0))), (q53, .inl (cI, 3, .inl (fun _ => 0))), (q61, .inl (cI, 6, .inl (fun _ => 0))), (q69, .inl (cI, 12, .inl (fun _ => 0))), (q77, .inl (cI, 10, .inl (fun _ => 0))), (q85, .inl (cI, 30, .inl (fun _ => 0)))] := hD
  refine lv_aload_n hx hb dX1_init_90 rfl (lv_at hl 0 rfl) ?_
  refine lv_bipush (v := zI 10) hx hb dX1_init_91 (by decide) ?_
  refine va_newa (atype := .int) (a0 := (10, .inl (fun _ => 0))) (N' := 10) hx hb (hts (.arrayClass .int) (by decide +kernel)) rfl hK hP hD hS hA (fun _ => rfl) (by decide +kernel) (by decide +kernel) (Nat.le_of_ble_eq_true rfl) (Nat.le_of_ble_eq_true rfl) (Nat.le_of_ble_eq_true rfl) dX1_init_93 (fun q93 cA93 H hK hP hD hS => ?_)
  have e93 : cA93 = cI := Option.some.inj ((hK.2 2 (cA93, .int) rfl).2.symm.trans (hK.2 0 (cI, .int) rfl).2)
  rw [e93] at hK hP hD
  have hK : va_K (dC, dI) vwCl [(cI, .int), (cZ, .boolean)] s := hK.sub [0, 1] rfl
  have hP : va_P (dC, dI) vwCl [(h0, .inr (1, [.int (zI 1), .int (zI 1), .ref q18, .ref q27, .ref q35, .int (zI 1), .int (zI 10), .ref q53, .ref q61, .ref q69, .ref q77, .ref q85, .int 0, .null, .int 0, .int 0, .null, .int 0, .int 0, .int 0, .int 0, .null, .long 0])), (q18, .inl (cI, 210, .inl (fun _ => 0))), (q27, .inl (cZ, 210, .inl (fun _ => 0))), (q35, .inl (cZ, 70, .inl (fun _ => 0))), (q53, .inl (cI, 3, .inl (fun _ => 0))), (q61, .inl (cI, 6, .inl (fun _ => 0))), (q69, .inl (cI, 12, .inl (fun _ => 0))), (q77, .inl (cI, 10, .inl (fun _ => 0))), (q85, .inl (cI, 30, .inl (fun _ => 0))), (q93, .inl (cI, 10, .inl (fun _ => 0)))] H := hP
  have hD : va_D A [(h0, .inr (1, [.int (zI 1), .int (zI 1), .ref q18, .ref q27, .ref q35, .int (zI 1), .int (zI 10), .ref q53, .ref q61, .ref q69, .ref q77, .ref q85, .int 0, .null, .int 0, .int 0, .null, .int 0, .int 0, .int 0, .int 0, .null, .long 0])), (q18, .inl (cI, 210, .inl (fun _ => 0))), (q27, .inl (cZ, 210, .inl (fun _ => 0))), (q35, .inl (cZ, 70, .inl (fun _ => 0))), (q53, .inl (cI, 3, .inl (fun _ => 0))), (q61, .inl (cI, 6, .inl (fun _ => 0))), (q69, .inl (cI, 12, .inl (fun _ => 0))), (q77, .inl (cI, 10, .inl (fun _ => 0))), (q85, .inl (cI, 30, .inl (fun _ => 0))), (q93, .inl (cI, 10, .inl (fun _ => 0)))] := hD
  refine W.widen (k := 9) (n := 561) (by omega) (by omega) ?_
  refine va_putF (D := (dC, dI)) (ci := 1) (v := .ref q93) (ty := .array .int) (C := RX1) (T := TX1) (N := 23) hx hb hts inX1_init tyX1 tyX1_ok nmX1 hown hK hP hD hS 0 rfl rfl 13 (by decide) (hts (.fieldLink RX1 48 "PianoJuryModel" "planOf" "[I") (by decide +kernel)) (fun _ h9 => h9) rfl hin rfl (by decide +kernel) rfl rfl (Nat.le_of_ble_eq_true rfl) dX1_init_95 (fun H locs hP hD hS => ?_)
  have hP : va_P (dC, dI) vwCl [(h0, .inr (1, [.int (zI 1), .int (zI 1), .ref q18, .ref q27, .ref q35, .int (zI 1), .int (zI 10), .ref q53, .ref q61, .ref q69, .ref q77, .ref q85, .int 0, .ref q93, .int 0, .int 0, .null, .int 0, .int 0, .int 0, .int 0, .null, .long 0])), (q18, .inl (cI, 210, .inl (fun _ => 0))), (q27, .inl (cZ, 210, .inl (fun _ => 0))), (q35, .inl (cZ, 70, .inl (fun _ => 0))), (q53, .inl (cI, 3, .inl (fun _ => 0))), (q61, .inl (cI, 6, .inl (fun _ => 0))), (q69, .inl (cI, 12, .inl (fun _ => 0))), (q77, .inl (cI, 10, .inl (fun _ => 0))), (q85, .inl (cI, 30, .inl (fun _ => 0))), (q93, .inl (cI, 10, .inl (fun _ => 0)))] H := hP
  have hD : va_D A [(h0, .inr (1, [.int (zI 1), .int (zI 1), .ref q18, .ref q27, .ref q35, .int (zI 1), .int (zI 10), .ref q53, .ref q61, .ref q69, .ref q77, .ref q85, .int 0, .ref q93, .int 0, .int 0, .null, .int 0, .int 0, .int 0, .int 0, .null, .long 0])), (q18, .inl (cI, 210, .inl (fun _ => 0))), (q27, .inl (cZ, 210, .inl (fun _ => 0))), (q35, .inl (cZ, 70, .inl (fun _ => 0))), (q53, .inl (cI, 3, .inl (fun _ => 0))), (q61, .inl (cI, 6, .inl (fun _ => 0))), (q69, .inl (cI, 12, .inl (fun _ => 0))), (q77, .inl (cI, 10, .inl (fun _ => 0))), (q85, .inl (cI, 30, .inl (fun _ => 0))), (q93, .inl (cI, 10, .inl (fun _ => 0)))] := hD
  refine lv_aload_n hx hb dX1_init_98 rfl (lv_at hl 0 rfl) ?_
  refine lv_bipush (v := zI 7) hx hb dX1_init_99 (by decide) ?_
  refine va_newa (atype := .int) (a0 := (7, .inl (fun _ => 0))) (N' := 7) hx hb (hts (.arrayClass .int) (by decide +kernel)) rfl hK hP hD hS hA (fun _ => rfl) (by decide +kernel) (by decide +kernel) (Nat.le_of_ble_eq_true rfl) (Nat.le_of_ble_eq_true rfl) (Nat.le_of_ble_eq_true rfl) dX1_init_101 (fun q101 cA101 H hK hP hD hS => ?_)
  have e101 : cA101 = cI := Option.some.inj ((hK.2 2 (cA101, .int) rfl).2.symm.trans (hK.2 0 (cI, .int) rfl).2)
  rw [e101] at hK hP hD
  have hK : va_K (dC, dI) vwCl [(cI, .int), (cZ, .boolean)] s := hK.sub [0, 1] rfl
  have hP : va_P (dC, dI) vwCl [(h0, .inr (1, [.int (zI 1), .int (zI 1), .ref q18, .ref q27, .ref q35, .int (zI 1), .int (zI 10), .ref q53, .ref q61, .ref q69, .ref q77, .ref q85, .int 0, .ref q93, .int 0, .int 0, .null, .int 0, .int 0, .int 0, .int 0, .null, .long 0])), (q18, .inl (cI, 210, .inl (fun _ => 0))), (q27, .inl (cZ, 210, .inl (fun _ => 0))), (q35, .inl (cZ, 70, .inl (fun _ => 0))), (q53, .inl (cI, 3, .inl (fun _ => 0))), (q61, .inl (cI, 6, .inl (fun _ => 0))), (q69, .inl (cI, 12, .inl (fun _ => 0))), (q77, .inl (cI, 10, .inl (fun _ => 0))), (q85, .inl (cI, 30, .inl (fun _ => 0))), (q93, .inl (cI, 10, .inl (fun _ => 0))), (q101, .inl (cI, 7, .inl (fun _ => 0)))] H := hP
  have hD : va_D A [(h0, .inr (1, [.int (zI 1), .int (zI 1), .ref q18, .ref q27, .ref q35, .int (zI 1), .int (zI 10), .ref q53, .ref q61, .ref q69, .ref q77, .ref q85, .int 0, .ref q93, .int 0, .int 0, .null, .int 0, .int 0, .int 0, .int 0, .null, .long 0])), (q18, .inl (cI, 210, .inl (fun _ => 0))), (q27, .inl (cZ, 210, .inl (fun _ => 0))), (q35, .inl (cZ, 70, .inl (fun _ => 0))), (q53, .inl (cI, 3, .inl (fun _ => 0))), (q61, .inl (cI, 6, .inl (fun _ => 0))), (q69, .inl (cI, 12, .inl (fun _ => 0))), (q77, .inl (cI, 10, .inl (fun _ => 0))), (q85, .inl (cI, 30, .inl (fun _ => 0))), (q93, .inl (cI, 10, .inl (fun _ => 0))), (q101, .inl (cI, 7, .inl (fun _ => 0)))] := hD
  refine W.widen (k := 10) (n := 568) (by omega) (by omega) ?_
  refine va_putF (D := (dC, dI)) (ci := 1) (v := .ref q101) (ty := .array .int) (C := RX1) (T := TX1) (N := 23) hx hb hts inX1_init tyX1 tyX1_ok nmX1 hown hK hP hD hS 0 rfl rfl 16 (by decide) (hts (.fieldLink RX1 51 "PianoJuryModel" "row" "[I") (by decide +kernel)) (fun _ h9 => h9) rfl hin rfl (by decide +kernel) rfl rfl (Nat.le_of_ble_eq_true rfl) dX1_init_103 (fun H locs hP hD hS => ?_)
  have hP : va_P (dC, dI) vwCl [(h0, .inr (1, [.int (zI 1), .int (zI 1), .ref q18, .ref q27, .ref q35, .int (zI 1), .int (zI 10), .ref q53, .ref q61, .ref q69, .ref q77, .ref q85, .int 0, .ref q93, .int 0, .int 0, .ref q101, .int 0, .int 0, .int 0, .int 0, .null, .long 0])), (q18, .inl (cI, 210, .inl (fun _ => 0))), (q27, .inl (cZ, 210, .inl (fun _ => 0))), (q35, .inl (cZ, 70, .inl (fun _ => 0))), (q53, .inl (cI, 3, .inl (fun _ => 0))), (q61, .inl (cI, 6, .inl (fun _ => 0))), (q69, .inl (cI, 12, .inl (fun _ => 0))), (q77, .inl (cI, 10, .inl (fun _ => 0))), (q85, .inl (cI, 30, .inl (fun _ => 0))), (q93, .inl (cI, 10, .inl (fun _ => 0))), (q101, .inl (cI, 7, .inl (fun _ => 0)))] H := hP
  have hD : va_D A [(h0, .inr (1, [.int (zI 1), .int (zI 1), .ref q18, .ref q27, .ref q35, .int (zI 1), .int (zI 10), .ref q53, .ref q61, .ref q69, .ref q77, .ref q85, .int 0, .ref q93, .int 0, .int 0, .ref q101, .int 0, .int 0, .int 0, .int 0, .null, .long 0])), (q18, .inl (cI, 210, .inl (fun _ => 0))), (q27, .inl (cZ, 210, .inl (fun _ => 0))), (q35, .inl (cZ, 70, .inl (fun _ => 0))), (q53, .inl (cI, 3, .inl (fun _ => 0))), (q61, .inl (cI, 6, .inl (fun _ => 0))), (q69, .inl (cI, 12, .inl (fun _ => 0))), (q77, .inl (cI, 10, .inl (fun _ => 0))), (q85, .inl (cI, 30, .inl (fun _ => 0))), (q93, .inl (cI, 10, .inl (fun _ => 0))), (q101, .inl (cI, 7, .inl (fun _ => 0)))] := hD
  refine lv_aload_n hx hb dX1_init_106 rfl (lv_at hl 0 rfl) ?_
  refine lv_bipush (v := zI 12) hx hb dX1_init_107 (by decide) ?_
  refine va_newa (atype := .int) (a0 := (12, .inl (fun _ => 0))) (N' := 12) hx hb (hts (.arrayClass .int) (by decide +kernel)) rfl hK hP hD hS hA (fun _ => rfl) (by decide +kernel) (by decide +kernel) (Nat.le_of_ble_eq_true rfl) (Nat.le_of_ble_eq_true rfl) (Nat.le_of_ble_eq_true rfl) dX1_init_109 (fun q109 cA109 H hK hP hD hS => ?_)
  have e109 : cA109 = cI := Option.some.inj ((hK.2 2 (cA109, .int) rfl).2.symm.trans (hK.2 0 (cI, .int) rfl).2)
  rw [e109] at hK hP hD
  have hK : va_K (dC, dI) vwCl [(cI, .int), (cZ, .boolean)] s := hK.sub [0, 1] rfl
  have hP : va_P (dC, dI) vwCl [(h0, .inr (1, [.int (zI 1), .int (zI 1), .ref q18, .ref q27, .ref q35, .int (zI 1), .int (zI 10), .ref q53, .ref q61, .ref q69, .ref q77, .ref q85, .int 0, .ref q93, .int 0, .int 0, .ref q101, .int 0, .int 0, .int 0, .int 0, .null, .long 0])), (q18, .inl (cI, 210, .inl (fun _ => 0))), (q27, .inl (cZ, 210, .inl (fun _ => 0))), (q35, .inl (cZ, 70, .inl (fun _ => 0))), (q53, .inl (cI, 3, .inl (fun _ => 0))), (q61, .inl (cI, 6, .inl (fun _ => 0))), (q69, .inl (cI, 12, .inl (fun _ => 0))), (q77, .inl (cI, 10, .inl (fun _ => 0))), (q85, .inl (cI, 30, .inl (fun _ => 0))), (q93, .inl (cI, 10, .inl (fun _ => 0))), (q101, .inl (cI, 7, .inl (fun _ => 0))), (q109, .inl (cI, 12, .inl (fun _ => 0)))] H := hP
  have hD : va_D A [(h0, .inr (1, [.int (zI 1), .int (zI 1), .ref q18, .ref q27, .ref q35, .int (zI 1), .int (zI 10), .ref q53, .ref q61, .ref q69, .ref q77, .ref q85, .int 0, .ref q93, .int 0, .int 0, .ref q101, .int 0, .int 0, .int 0, .int 0, .null, .long 0])), (q18, .inl (cI, 210, .inl (fun _ => 0))), (q27, .inl (cZ, 210, .inl (fun _ => 0))), (q35, .inl (cZ, 70, .inl (fun _ => 0))), (q53, .inl (cI, 3, .inl (fun _ => 0))), (q61, .inl (cI, 6, .inl (fun _ => 0))), (q69, .inl (cI, 12, .inl (fun _ => 0))), (q77, .inl (cI, 10, .inl (fun _ => 0))), (q85, .inl (cI, 30, .inl (fun _ => 0))), (q93, .inl (cI, 10, .inl (fun _ => 0))), (q101, .inl (cI, 7, .inl (fun _ => 0))), (q109, .inl (cI, 12, .inl (fun _ => 0)))] := hD
  refine W.widen (k := 11) (n := 580) (by omega) (by omega) ?_
  refine va_putF (D := (dC, dI)) (ci := 1) (v := .ref q109) (ty := .array .int) (C := RX1) (T := TX1) (N := 23) hx hb hts inX1_init tyX1 tyX1_ok nmX1 hown hK hP hD hS 0 rfl rfl 21 (by decide) (hts (.fieldLink RX1 54 "PianoJuryModel" "heardOf" "[I") (by decide +kernel)) (fun _ h9 => h9) rfl hin rfl (by decide +kernel) rfl rfl (Nat.le_of_ble_eq_true rfl) dX1_init_111 (fun H locs hP hD hS => ?_)
  have hP : va_P (dC, dI) vwCl [(h0, .inr (1, [.int (zI 1), .int (zI 1), .ref q18, .ref q27, .ref q35, .int (zI 1), .int (zI 10), .ref q53, .ref q61, .ref q69, .ref q77, .ref q85, .int 0, .ref q93, .int 0, .int 0, .ref q101, .int 0, .int 0, .int 0, .int 0, .ref q109, .long 0])), (q18, .inl (cI, 210, .inl (fun _ => 0))), (q27, .inl (cZ, 210, .inl (fun _ => 0))), (q35, .inl (cZ, 70, .inl (fun _ => 0))), (q53, .inl (cI, 3, .inl (fun _ => 0))), (q61, .inl (cI, 6, .inl (fun _ => 0))), (q69, .inl (cI, 12, .inl (fun _ => 0))), (q77, .inl (cI, 10, .inl (fun _ => 0))), (q85, .inl (cI, 30, .inl (fun _ => 0))), (q93, .inl (cI, 10, .inl (fun _ => 0))), (q101, .inl (cI, 7, .inl (fun _ => 0))), (q109, .inl (cI, 12, .inl (fun _ => 0)))] H := hP
  have hD : va_D A [(h0, .inr (1, [.int (zI 1), .int (zI 1), .ref q18, .ref q27, .ref q35, .int (zI 1), .int (zI 10), .ref q53, .ref q61, .ref q69, .ref q77, .ref q85, .int 0, .ref q93, .int 0, .int 0, .ref q101, .int 0, .int 0, .int 0, .int 0, .ref q109, .long 0])), (q18, .inl (cI, 210, .inl (fun _ => 0))), (q27, .inl (cZ, 210, .inl (fun _ => 0))), (q35, .inl (cZ, 70, .inl (fun _ => 0))), (q53, .inl (cI, 3, .inl (fun _ => 0))), (q61, .inl (cI, 6, .inl (fun _ => 0))), (q69, .inl (cI, 12, .inl (fun _ => 0))), (q77, .inl (cI, 10, .inl (fun _ => 0))), (q85, .inl (cI, 30, .inl (fun _ => 0))), (q93, .inl (cI, 10, .inl (fun _ => 0))), (q101, .inl (cI, 7, .inl (fun _ => 0))), (q109, .inl (cI, 12, .inl (fun _ => 0)))] := hD
  refine lv_aload_n hx hb dX1_init_114 rfl (lv_at hl 0 rfl) ?_
  refine va_get (D := (dC, dI)) (ci := 1) (v := .ref q53) (C := RX1) (T := TX1) (N := 23) hx hb hts inX1_init hown hK hP 0 rfl rfl 7 (by decide) (hts (.fieldLink RX1 33 "PianoJuryModel" "weights" "[I") (by decide +kernel)) (fun _ h9 => h9) rfl dX1_init_115 ?_
  refine lv_iconst (v := zI 0) hx hb dX1_init_118 (by decide) ?_
  refine lv_iconst (v := zI 1) hx hb dX1_init_119 (by decide) ?_
  refine va_iast hx hb hK hP hD hS 4 0 rfl rfl (i := zI 0) (x := zI 1) (zI_in (by omega) (by omega)) dX1_init_120 (fun H locs hP hD hS => ?_)
  have hP : va_P (dC, dI) vwCl [(h0, .inr (1, [.int (zI 1), .int (zI 1), .ref q18, .ref q27, .ref q35, .int (zI 1), .int (zI 10), .ref q53, .ref q61, .ref q69, .ref q77, .ref q85, .int 0, .ref q93, .int 0, .int 0, .ref q101, .int 0, .int 0, .int 0, .int 0, .ref q109, .long 0])), (q18, .inl (cI, 210, .inl (fun _ => 0))), (q27, .inl (cZ, 210, .inl (fun _ => 0))), (q35, .inl (cZ, 70, .inl (fun _ => 0))), (q53, .inl (cI, 3, .inl (upd (fun _ => 0) (zI 0).toNatClampNeg (zI 1)))), (q61, .inl (cI, 6, .inl (fun _ => 0))), (q69, .inl (cI, 12, .inl (fun _ => 0))), (q77, .inl (cI, 10, .inl (fun _ => 0))), (q85, .inl (cI, 30, .inl (fun _ => 0))), (q93, .inl (cI, 10, .inl (fun _ => 0))), (q101, .inl (cI, 7, .inl (fun _ => 0))), (q109, .inl (cI, 12, .inl (fun _ => 0)))] H := hP
  have hD : va_D A [(h0, .inr (1, [.int (zI 1), .int (zI 1), .ref q18, .ref q27, .ref q35, .int (zI 1), .int (zI 10), .ref q53, .ref q61, .ref q69, .ref q77, .ref q85, .int 0, .ref q93, .int 0, .int 0, .ref q101, .int 0, .int 0, .int 0, .int 0, .ref q109, .long 0])), (q18, .inl (cI, 210, .inl (fun _ => 0))), (q27, .inl (cZ, 210, .inl (fun _ => 0))), (q35, .inl (cZ, 70, .inl (fun _ => 0))), (q53, .inl (cI, 3, .inl (upd (fun _ => 0) (zI 0).toNatClampNeg (zI 1)))), (q61, .inl (cI, 6, .inl (fun _ => 0))), (q69, .inl (cI, 12, .inl (fun _ => 0))), (q77, .inl (cI, 10, .inl (fun _ => 0))), (q85, .inl (cI, 30, .inl (fun _ => 0))), (q93, .inl (cI, 10, .inl (fun _ => 0))), (q101, .inl (cI, 7, .inl (fun _ => 0))), (q109, .inl (cI, 12, .inl (fun _ => 0)))] := hD
  refine lv_iconst (v := zI 0) hx hb dX1_init_121 (by decide) ?_
  refine lv_istore_n (lv' := [(1, .int (zI 0)), (0, .ref h0)]) hx hb dX1_init_122 rfl hl (by decide) rfl (fun ls hl => ?_)
  refine W_Q (fun Qf hQf => ?_)
  suffices hend : ∀ (f : Nat → Int32) (H : Heap) (locs : List Loc) (ls : Array Slot), (∀ j, j < 12 → f j = zI 10) → va_P (dC, dI) vwCl [(h0, .inr (1, [.int (zI 1), .int (zI 1), .ref q18, .ref q27, .ref q35, .int (zI 1), .int (zI 10), .ref q53, .ref q61, .ref q69, .ref q77, .ref q85, .int 0, .ref q93, .int 0, .int 0, .ref q101, .int 0, .int 0, .int 0, .int 0, .ref q109, .long 0])), (q18, .inl (cI, 210, .inl (fun _ => 0))), (q27, .inl (cZ, 210, .inl (fun _ => 0))), (q35, .inl (cZ, 70, .inl (fun _ => 0))), (q53, .inl (cI, 3, .inl (upd (fun _ => 0) (zI 0).toNatClampNeg (zI 1)))), (q61, .inl (cI, 6, .inl (fun _ => 0))), (q69, .inl (cI, 12, .inl f)), (q77, .inl (cI, 10, .inl (fun _ => 0))), (q85, .inl (cI, 30, .inl (fun _ => 0))), (q93, .inl (cI, 10, .inl (fun _ => 0))), (q101, .inl (cI, 7, .inl (fun _ => 0))), (q109, .inl (cI, 12, .inl (fun _ => 0)))] H → va_D A [(h0, .inr (1, [.int (zI 1), .int (zI 1), .ref q18, .ref q27, .ref q35, .int (zI 1), .int (zI 10), .ref q53, .ref q61, .ref q69, .ref q77, .ref q85, .int 0, .ref q93, .int 0, .int 0, .ref q101, .int 0, .int 0, .int 0, .int 0, .ref q109, .long 0])), (q18, .inl (cI, 210, .inl (fun _ => 0))), (q27, .inl (cZ, 210, .inl (fun _ => 0))), (q35, .inl (cZ, 70, .inl (fun _ => 0))), (q53, .inl (cI, 3, .inl (upd (fun _ => 0) (zI 0).toNatClampNeg (zI 1)))), (q61, .inl (cI, 6, .inl (fun _ => 0))), (q69, .inl (cI, 12, .inl f)), (q77, .inl (cI, 10, .inl (fun _ => 0))), (q85, .inl (cI, 30, .inl (fun _ => 0))), (q93, .inl (cI, 10, .inl (fun _ => 0))), (q101, .inl (cI, 7, .inl (fun _ => 0))), (q109, .inl (cI, 12, .inl (fun _ => 0)))] → va_S A s.heap H locs → (∃ v, lv_has ls 2 [(1, .int v), (0, .ref h0)]) → W p l e (headSpec wsX1_init { frames := 8, cells := 11, slots := 580, locals := 600 }).room s m #[Value.ref h0] below meth c H locs 11 580 Qf (F0 m 143 ls []) by
    have loop : ∀ (M : Nat) (i : Int) (f : Nat → Int32) (H : Heap) (locs : List Loc) (ls : Array Slot), (12 - i).toNat = M → 0 ≤ i → i ≤ 12 → (∀ j : Nat, (j : Int) < i → f j = zI 10) → va_P (dC, dI) vwCl [(h0, .inr (1, [.int (zI 1), .int (zI 1), .ref q18, .ref q27, .ref q35, .int (zI 1), .int (zI 10), .ref q53, .ref q61, .ref q69, .ref q77, .ref q85, .int 0, .ref q93, .int 0, .int 0, .ref q101, .int 0, .int 0, .int 0, .int 0, .ref q109, .long 0])), (q18, .inl (cI, 210, .inl (fun _ => 0))), (q27, .inl (cZ, 210, .inl (fun _ => 0))), (q35, .inl (cZ, 70, .inl (fun _ => 0))), (q53, .inl (cI, 3, .inl (upd (fun _ => 0) (zI 0).toNatClampNeg (zI 1)))), (q61, .inl (cI, 6, .inl (fun _ => 0))), (q69, .inl (cI, 12, .inl f)), (q77, .inl (cI, 10, .inl (fun _ => 0))), (q85, .inl (cI, 30, .inl (fun _ => 0))), (q93, .inl (cI, 10, .inl (fun _ => 0))), (q101, .inl (cI, 7, .inl (fun _ => 0))), (q109, .inl (cI, 12, .inl (fun _ => 0)))] H → va_D A [(h0, .inr (1, [.int (zI 1), .int (zI 1), .ref q18, .ref q27, .ref q35, .int (zI 1), .int (zI 10), .ref q53, .ref q61, .ref q69, .ref q77, .ref q85, .int 0, .ref q93, .int 0, .int 0, .ref q101, .int 0, .int 0, .int 0, .int 0, .ref q109, .long 0])), (q18, .inl (cI, 210, .inl (fun _ => 0))), (q27, .inl (cZ, 210, .inl (fun _ => 0))), (q35, .inl (cZ, 70, .inl (fun _ => 0))), (q53, .inl (cI, 3, .inl (upd (fun _ => 0) (zI 0).toNatClampNeg (zI 1)))), (q61, .inl (cI, 6, .inl (fun _ => 0))), (q69, .inl (cI, 12, .inl f)), (q77, .inl (cI, 10, .inl (fun _ => 0))), (q85, .inl (cI, 30, .inl (fun _ => 0))), (q93, .inl (cI, 10, .inl (fun _ => 0))), (q101, .inl (cI, 7, .inl (fun _ => 0))), (q109, .inl (cI, 12, .inl (fun _ => 0)))] → va_S A s.heap H locs → lv_has ls 2 [(1, .int (zI i)), (0, .ref h0)] → W p l e (headSpec wsX1_init { frames := 8, cells := 11, slots := 580, locals := 600 }).room s m #[Value.ref h0] below meth c H locs 11 580 Qf (F0 m 123 ls []) := by
      refine st_ind (fun M ih => ?_)
      intro i f H locs ls hM hi hi2 hf hP hD hS hl
      refine lv_iload_n hx hb dX1_init_123 rfl (lv_at hl 0 rfl) ?_
      refine lv_bipush (v := zI 12) hx hb dX1_init_124 (by decide) ?_
      refine lv_icmp_ge (tgt := 143) hx hb dX1_init_126 (by decide) (fun c => ?_) (fun c => ?_)
      · have hc := (zI_le (by omega)).mp c
        exact hend f H locs ls (fun j hj => hf j (by omega)) hP hD hS ⟨_, hl⟩
      · have hc : i < 12 := Int.not_le.mp (fun q => c ((zI_le (a := 12) (b := i) (by omega)).mpr q))
        refine lv_aload_n hx hb dX1_init_129 rfl (lv_at hl 1 rfl) ?_
        refine va_get (D := (dC, dI)) (ci := 1) (v := .ref q69) (C := RX1) (T := TX1) (N := 23) hx hb hts inX1_init hown hK hP 0 rfl rfl 9 (by decide) (hts (.fieldLink RX1 39 "PianoJuryModel" "minutes" "[I") (by decide +kernel)) (fun _ h9 => h9) rfl dX1_init_130 ?_
        refine lv_iload_n hx hb dX1_init_133 rfl (lv_at hl 0 rfl) ?_
        refine lv_bipush (v := zI 10) hx hb dX1_init_134 (by decide) ?_
        refine va_iast hx hb hK hP hD hS 6 0 rfl rfl (i := zI i) (x := zI 10) (zI_in (by omega) (by omega)) dX1_init_136 (fun H locs hP hD hS => ?_)
        refine lv_iinc (v := zI (i + 1)) (lv' := [(1, .int (zI (i + 1))), (0, .ref h0)]) hx hb dX1_init_137 hl (k := 0) rfl (zI_add i 1) (by decide) rfl (fun ls hl => ?_)
        refine lv_goto (tgt := 123) hx hb dX1_init_140 (by decide) ?_
        refine ih _ (by omega) (i + 1) (upd f (zI i).toNatClampNeg (zI 10)) H locs ls rfl (by omega) (by omega) (fun j hj => ?_) hP hD hS hl
        have h1 := zI_cl (z := i) (by omega)
        unfold upd
        split
        · rfl
        · next hne => exact hf j (by omega)
    exact loop _ 0 _ H locs ls rfl (by omega) (by omega) (fun j hj => by omega) hP hD hS hl
  intro f H locs ls hf hP hD hS hl
  subst hQf
  obtain ⟨vi, hl⟩ := hl
  obtain ⟨adf, hadf⟩ : ∃ a : Nat → Nat, (fun k => ([h0, q18, q27, q35, q53, q61, q69, q77, q85, q93, q101, q109] : List Nat).getD k 0) = a := ⟨_, rfl⟩
  have had := ads_of (ws := [(h0, .inr (1, [.int (zI 1), .int (zI 1), .ref q18, .ref q27, .ref q35, .int (zI 1), .int (zI 10), .ref q53, .ref q61, .ref q69, .ref q77, .ref q85, .int 0, .ref q93, .int 0, .int 0, .ref q101, .int 0, .int 0, .int 0, .int 0, .ref q109, .long 0])), (q18, .inl (cI, 210, .inl (fun _ => 0))), (q27, .inl (cZ, 210, .inl (fun _ => 0))), (q35, .inl (cZ, 70, .inl (fun _ => 0))), (q53, .inl (cI, 3, .inl (upd (fun _ => 0) (zI 0).toNatClampNeg (zI 1)))), (q61, .inl (cI, 6, .inl (fun _ => 0))), (q69, .inl (cI, 12, .inl f)), (q77, .inl (cI, 10, .inl (fun _ => 0))), (q85, .inl (cI, 30, .inl (fun _ => 0))), (q93, .inl (cI, 10, .inl (fun _ => 0))), (q101, .inl (cI, 7, .inl (fun _ => 0))), (q109, .inl (cI, 12, .inl (fun _ => 0)))]) (h0 := h0) (sz := s.heap.size) (ad := adf) hD (fun q h => by rw [← hAe] at h; exact h) (fun i hi => by
    rw [← hadf]
    have hi : i < 12 := hi
    match i, hi with
    | 0, _ => exact ⟨_, rfl⟩
    | 1, _ => exact ⟨_, rfl⟩
    | 2, _ => exact ⟨_, rfl⟩
    | 3, _ => exact ⟨_, rfl⟩
    | 4, _ => exact ⟨_, rfl⟩
    | 5, _ => exact ⟨_, rfl⟩
    | 6, _ => exact ⟨_, rfl⟩
    | 7, _ => exact ⟨_, rfl⟩
    | 8, _ => exact ⟨_, rfl⟩
    | 9, _ => exact ⟨_, rfl⟩
    | 10, _ => exact ⟨_, rfl⟩
    | 11, _ => exact ⟨_, rfl⟩
    | i + 12, h => omega) (by rw [← hadf]; rfl) (Nat.succ_pos _)
  have hP0 : va_at (dC, dI) vwCl (h0, .inr (1, [.int (zI 1), .int (zI 1), .ref q18, .ref q27, .ref q35, .int (zI 1), .int (zI 10), .ref q53, .ref q61, .ref q69, .ref q77, .ref q85, .int (zI 0), .ref q93, .int (zI 0), .int (zI 0), .ref q101, .int (zI 0), .int (zI 0), .int (zI 0), .int (zI 0), .ref q109, .long (zL 0)])) H := hP 0 _ rfl
  have hW : HW (l, dC, dI, cI, cZ, adf) GM mI z0 s H := by
    refine HW_of hK (fun k t ht => ?_) had.1
    match k, ht with
    | 0, ht => cases ht; rw [← hadf]; exact va_at_obj hP0
    | 1, ht => cases ht; rw [← hadf]; exact arr_same (hP 1 _ rfl) (fun j hj => by
        show (0 : Int32) = zI (if 0 ≤ (j : Int) ∧ (j : Int) < 210 then 0 else -1)
        rw [if_pos (by omega)]
        rfl)
    | 2, ht => cases ht; rw [← hadf]; exact arr_same (hP 2 _ rfl) (fun _ _ => rfl)
    | 3, ht => cases ht; rw [← hadf]; exact arr_same (hP 3 _ rfl) (fun _ _ => rfl)
    | 4, ht => cases ht; rw [← hadf]; exact arr_same (hP 4 _ rfl) (fun j hj => by
        match j, hj with
        | 0, _ => rfl
        | 1, _ => rfl
        | 2, _ => rfl
        | j + 3, h => omega)
    | 5, ht => cases ht; rw [← hadf]; exact arr_same (hP 5 _ rfl) (fun _ _ => rfl)
    | 6, ht => cases ht; rw [← hadf]; exact arr_same (hP 6 _ rfl) (fun j hj => (hf j hj).trans rfl)
    | 7, ht => cases ht; rw [← hadf]; exact arr_same (hP 7 _ rfl) (fun _ _ => rfl)
    | 8, ht => cases ht; rw [← hadf]; exact arr_same (hP 8 _ rfl) (fun _ _ => rfl)
    | 9, ht => cases ht; rw [← hadf]; exact arr_same (hP 9 _ rfl) (fun _ _ => rfl)
    | 10, ht => cases ht; rw [← hadf]; exact arr_same (hP 10 _ rfl) (fun _ _ => rfl)
    | 11, ht => cases ht; rw [← hadf]; exact arr_same (hP 11 _ rfl) (fun _ _ => rfl)
    | k + 12, ht => cases ht
  have hA2 : ∀ q, AA (l, dC, dI, cI, cZ, adf) GM q → A q := by
    rintro q ⟨k, hk, rfl⟩
    rw [← hAe]
    by_cases h : k = 0
    · subst h
      exact Or.inl (by rw [← hadf]; rfl)
    · exact Or.inr (had.2 k (by omega) hk)
  have h00 : (.ref h0 : Value) = .ref (eAd (l, dC, dI, cI, cZ, adf) 0) := by rw [← hadf]; rfl
  refine lv_aload_n hx hb dX1_init_143 rfl (lv_at hl 1 rfl) ?_
  refine W.eq (g2 := F0 m 144 ls [.ref (eAd (l, dC, dI, cI, cZ, adf) 0)]) (congrArg (fun v => F0 m 144 ls [v]) h00) ?_
  refine W_callV (E := (l, dC, dI, cI, cZ, adf)) (G := GM) (as := []) (k2 := kX1_begin) (n := 0) (d := 3) hx hb hml hown hts hl.1 dX1_init_144 gX1_init_X1_begin kkX1_begin rfl rfl rfl (Nat.le_of_ble_eq_true rfl) ⟨Nat.le_of_ble_eq_true rfl, Nat.le_of_ble_eq_true rfl⟩ ⟨Nat.le_of_ble_eq_true rfl, Nat.le_of_ble_eq_true rfl⟩ hW hS hA2 (Q2 := fun v τ' ζ' => v = none ∧ τ' = m0 ∧ ζ' = z0) (c_X1_begin ⟨rfl, rfl, rfl⟩) (fun v τ1 ζ1 H1 locs1 hv hW hz1 hk1 hS => ?_)
  obtain ⟨rfl, rfl, rfl⟩ := hv
  exact W.vret hx hb hr (fun t ht hWm => ⟨⟨cI, cZ, adf, z0, rfl, by rw [← hadf]; rfl, had.2, va_K.moved hWm.alike hW.1, by rw [ht]; exact hW.2.1, hW.2.2⟩, hS.F ht⟩) hS.2.2 dX1_init_147


set_option maxHeartbeats 4000000 in
set_option maxRecDepth 100000 in
theorem law_loop {EX EM : Ev} {b L : Nat} {xs : Nat → Int32} (hl : EM.1 = EX.1) (hL31 : L < 2147483640) : ∀ (N : Nat) (i : Int) (x zx y zy : Sf), ((L : Int) - i).toNat = N → 0 ≤ i → i ≤ L → Sim x y → LR EX EM b L xs 18 i [] x zx y zy := by
  refine st_ind (fun N ih => ?_)
  intro i x zx y zy hN hi hiL S
  refine L_ild dL_law_18 ?_
  refine L_ald dL_law_19 rfl ?_
  refine L_len dL_law_20 ?_
  refine L_bip dL_law_21 (by decide) ?_
  refine L_sub dL_law_23 ?_
  refine L_gt (tgt := 1119) (by omega) dL_law_24 (by decide) (fun c => ?_) (fun c => ?_)
  · refine L_con dL_law_1119 ?_
    exact L_end dL_law_1120
  · have next : ∀ x' zx' y' zy' : Sf, Sim x' y' → LR EX EM b L xs 1113 i [] x' zx' y' zy' := by
      intro x' zx' y' zy' S'
      refine L_inc dL_law_1113 ?_
      refine L_goto (tgt := 18) dL_law_1116 (by decide) ?_
      exact ih ((L : Int) - (i + 6)).toNat (by omega) (i + 6) x' zx' y' zy' rfl (by omega) (by omega) S'
    have hL31' : L < 2147483648 := by omega
    refine L_ald dL_law_27 rfl ?_
    refine L_ild dL_law_28 ?_
    refine L_sld (by omega) hL31' dL_law_29 ?_
    refine L_bip dL_law_30 (by decide) ?_
    refine L_and31 dL_law_32 (fun z hz0 hz1 => ?_)
    rcases (show z = 0 ∨ z = 1 ∨ z = 2 ∨ z = 3 ∨ z = 4 ∨ z = 5 ∨ z = 6 ∨ z = 7 ∨ z = 8 ∨ z = 9 ∨ z = 10 ∨ z = 11 ∨ z = 12 ∨ z = 13 ∨ z = 14 ∨ z = 15 ∨ z = 16 ∨ z = 17 ∨ z = 18 ∨ z = 19 ∨ z = 20 ∨ z = 21 ∨ z = 22 ∨ z = 23 ∨ z = 24 ∨ z = 25 ∨ 26 ≤ z by omega) with rfl | rfl | rfl | rfl | rfl | rfl | rfl | rfl | rfl | rfl | rfl | rfl | rfl | rfl | rfl | rfl | rfl | rfl | rfl | rfl | rfl | rfl | rfl | rfl | rfl | rfl | hz
    · exact L_tab (tgt := 152) (off := 119) (by omega) dL_law_33 (by omega) rfl (by decide) (law_case0 hl hL31' (by omega) S next)
    · exact L_tab (tgt := 185) (off := 152) (by omega) dL_law_33 (by omega) rfl (by decide) (law_case1 hl hL31' (by omega) S next)
    · exact L_tab (tgt := 238) (off := 205) (by omega) dL_law_33 (by omega) rfl (by decide) (law_case2 hl hL31' (by omega) S next)
    · exact L_tab (tgt := 307) (off := 274) (by omega) dL_law_33 (by omega) rfl (by decide) (law_case3 hl hL31' (by omega) S next)
    · exact L_tab (tgt := 366) (off := 333) (by omega) dL_law_33 (by omega) rfl (by decide) (law_case4 hl hL31' (by omega) S next)
    · exact L_tab (tgt := 399) (off := 366) (by omega) dL_law_33 (by omega) rfl (by decide) (law_case5 hl hL31' (by omega) S next)
    · exact L_tab (tgt := 442) (off := 409) (by omega) dL_law_33 (by omega) rfl (by decide) (law_case6 hl hL31' (by omega) S next)
    · exact L_tab (tgt := 485) (off := 452) (by omega) dL_law_33 (by omega) rfl (by decide) (law_case7 hl hL31' (by omega) S next)
    · exact L_tab (tgt := 528) (off := 495) (by omega) dL_law_33 (by omega) rfl (by decide) (law_case8 hl hL31' (by omega) S next)
    · exact L_tab (tgt := 571) (off := 538) (by omega) dL_law_33 (by omega) rfl (by decide) (law_case9 hl hL31' (by omega) S next)
    · exact L_tab (tgt := 624) (off := 591) (by omega) dL_law_33 (by omega) rfl (by decide) (law_case10 hl hL31' (by omega) S next)
    · exact L_tab (tgt := 687) (off := 654) (by omega) dL_law_33 (by omega) rfl (by decide) (law_case11 hl hL31' (by omega) S next)
    · exact L_tab (tgt := 740) (off := 707) (by omega) dL_law_33 (by omega) rfl (by decide) (law_case12 hl hL31' (by omega) S next)
    · exact L_tab (tgt := 773) (off := 740) (by omega) dL_law_33 (by omega) rfl (by decide) (law_case13 hl hL31' (by omega) S next)
    · exact L_tab (tgt := 796) (off := 763) (by omega) dL_law_33 (by omega) rfl (by decide) (law_case14 hl hL31' (by omega) S next)
    · exact L_tab (tgt := 819) (off := 786) (by omega) dL_law_33 (by omega) rfl (by decide) (law_case15 hl hL31' (by omega) S next)
    · exact L_tab (tgt := 852) (off := 819) (by omega) dL_law_33 (by omega) rfl (by decide) (law_case16 hl hL31' (by omega) S next)
    · exact L_tab (tgt := 875) (off := 842) (by omega) dL_law_33 (by omega) rfl (by decide) (law_case17 hl hL31' (by omega) S next)
    · exact L_tab (tgt := 888) (off := 855) (by omega) dL_law_33 (by omega) rfl (by decide) (law_case18 hl hL31' (by omega) S next)
    · exact L_tab (tgt := 921) (off := 888) (by omega) dL_law_33 (by omega) rfl (by decide) (law_case19 hl hL31' (by omega) S next)
    · exact L_tab (tgt := 954) (off := 921) (by omega) dL_law_33 (by omega) rfl (by decide) (law_case20 hl hL31' (by omega) S next)
    · exact L_tab (tgt := 997) (off := 964) (by omega) dL_law_33 (by omega) rfl (by decide) (law_case21 hl hL31' (by omega) S next)
    · exact L_tab (tgt := 1020) (off := 987) (by omega) dL_law_33 (by omega) rfl (by decide) (law_case22 hl hL31' (by omega) S next)
    · exact L_tab (tgt := 1043) (off := 1010) (by omega) dL_law_33 (by omega) rfl (by decide) (law_case23 hl hL31' (by omega) S next)
    · exact L_tab (tgt := 1076) (off := 1043) (by omega) dL_law_33 (by omega) rfl (by decide) (law_case24 hl hL31' (by omega) S next)
    · exact L_tab (tgt := 1099) (off := 1066) (by omega) dL_law_33 (by omega) rfl (by decide) (law_case25 hl hL31' (by omega) S next)
    · exact L_out (tgt := 1113) (by omega) dL_law_33 (by omega) (by decide) (next _ _ _ _ S)
theorem sim_0 : Sim x0 m0 := by
  have a1 : ∀ q, x0 1 q = if 0 ≤ q ∧ q < 210 then -1 else (if 0 ≤ q ∧ q < 210 then 0 else -1) := fun _ => rfl
  have b1 : ∀ q, m0 1 q = if 0 ≤ q ∧ q < 210 then -1 else (if 0 ≤ q ∧ q < 210 then 0 else -1) := fun _ => rfl
  have a7 : ∀ q, x0 7 q = if 0 ≤ q ∧ q < 12 then 10 else (if 0 ≤ q ∧ q < 12 then 0 else 10) := fun _ => rfl
  have a10 : ∀ q, x0 10 q = if 0 ≤ q ∧ q < 10 then -1 else (if 0 ≤ q ∧ q < 10 then 0 else -1) := fun _ => rfl
  have a2 : ∀ q, x0 2 q = if 0 ≤ q ∧ q < 210 then 0 else 0 := fun _ => rfl
  have a3 : ∀ q, x0 3 q = if 0 ≤ q ∧ q < 70 then 0 else 0 := fun _ => rfl
  have a9 : ∀ q, x0 9 q = if 0 ≤ q ∧ q < 10 then 0 else 0 := fun _ => rfl
  have a4 : ∀ q, x0 4 q = if q = 0 then 1 else 10 := fun _ => rfl
  have a5 : ∀ q, x0 5 q = if q = 0 then 1 else 0 := fun _ => rfl
  have b2 : ∀ q, m0 2 q = if 0 ≤ q ∧ q < 210 then 0 else 0 := fun _ => rfl
  have b3 : ∀ q, m0 3 q = if 0 ≤ q ∧ q < 70 then 0 else 0 := fun _ => rfl
  have b7 : ∀ q, m0 7 q = if 0 ≤ q ∧ q < 10 then 0 else 0 := fun _ => rfl
  have b4 : ∀ q, m0 4 q = if q = 0 then 1 else 0 := fun _ => rfl
  have a20 : x0 20 0 = 1 := rfl
  have a21 : x0 21 0 = 1 := rfl
  have b32 : m0 32 0 = 0 := rfl
  have a6 : ∀ q, x0 6 q = 0 := fun _ => rfl
  have a8 : ∀ q, x0 8 q = 0 := fun _ => rfl
  have b5 : ∀ q, m0 5 q = 0 := fun _ => rfl
  have b6 : ∀ q, m0 6 q = 10 := fun _ => rfl
  have b8 : ∀ q, m0 8 q = 0 := fun _ => rfl
  have b9 : ∀ q, m0 9 q = 0 := fun _ => rfl
  have b20 : m0 20 0 = 1 := rfl
  have b21 : m0 21 0 = 1 := rfl
  have b25 : m0 25 0 = 1 := rfl
  have b26 : m0 26 0 = 10 := rfl
  have a40 : x0 4 0 = 1 := rfl
  have a41 : x0 4 1 = 10 := rfl
  refine ⟨⟨by omega, by omega, fun i => ?_, fun i => ?_, fun i => ?_, by omega, by omega, fun i => ?_, fun i => by rw [a6]; omega, fun i => ?_, fun i => by rw [a8]; omega, fun i => ?_, fun i => ?_⟩, ⟨by omega, by omega, fun i => ?_, fun i => ?_, fun i => ?_, by omega, by omega, fun i => ?_, fun i => by rw [b5]; omega, fun i => by rw [b6]; omega, fun i => by rw [b8]; omega, fun i => ?_, fun i => by rw [b9]; omega, Or.inl b32⟩, rfl, rfl, rfl, rfl, rfl, rfl, rfl, rfl, rfl, ?_, rfl, rfl, fun p h1 h2 => ?_, fun w h1 h2 => ?_, fun p h => ?_, fun p i h1 h2 h3 => ?_, fun i => ?_, fun p => ?_⟩
  · rw [a1]; split <;> (try split) <;> omega
  · rw [a2]; split <;> omega
  · rw [a3]; split <;> omega
  · rw [a5]; split <;> omega
  · rw [a7]; split <;> (try split) <;> omega
  · rw [a9]; split <;> omega
  · rw [a10]; split <;> (try split) <;> omega
  · rw [b1]; split <;> (try split) <;> omega
  · rw [b2]; split <;> omega
  · rw [b3]; split <;> omega
  · rw [b4]; split <;> omega
  · rw [b7]; split <;> omega
  · funext q
    rw [b6, a7]
    split <;> (try split) <;> omega
  · rw [a20] at h2
    unfold chM
    rw [b32, a10, if_pos (by omega), if_neg (by omega)]
  · unfold heM heX
    rw [b32, if_neg (by omega), a20]
    refine (sm_zero 0 (fun q g3 g4 => ?_)).symm
    have e10 : x0 10 q = -1 := by rw [a10, if_pos (by omega)]
    show (if x0 10 q = -1 then (0 : Int) else _) = 0
    rw [e10, if_pos rfl]
  · rw [a9]; split <;> rfl
  · rw [a9] at h3
    split at h3 <;> omega
  · rw [a4]; split <;> omega
  · rw [a10, a9]
    split <;> (try split) <;> omega
/-- a constructor called from a walk: the new object's world comes back -/
theorem lw_ini {p : Program} {l : Launch} {e : Env} {RR : Room} {s : State} {m : MethodId} {args : Array Value} {below : List Frame} {meth : Method} {c : Code} {H : Heap} {locs : List Loc} {cells slots mc ms pc : Nat} {Qf : State → Prop} {ls : Array Slot} {st0 rest : List Value} {as : Array Value} {A0 : Nat → Prop} {h0 sz : Nat} {dC : Nat → ClassId} {dI : Nat → Nat → Nat} {G : Gd} {τ0 : Sf} (hr : va_Run p l e RR s m args below meth c H locs cells slots mc ms (F0 m pc ls st0) rest (QI h0 l dC dI G τ0 sz as) (fun q => q = h0 ∨ sz ≤ q)) (hS : va_S A0 s.heap H locs) (hA : ∀ q, (q = h0 ∨ sz ≤ q) → A0 q)
    (kk : ∀ (cI cZ : ClassId) (ad : Nat → Nat) (ζ : Sf) (H1 : Heap) (locs1 : List Loc), ad 0 = h0 → (∀ k, 1 ≤ k → k < G.2.1.length → sz ≤ ad k) → HW (l, dC, dI, cI, cZ, ad) G τ0 ζ s H1 → H.size ≤ H1.size → (∀ q : Nat, q < H.size → ¬ (q = h0 ∨ sz ≤ q) → H1[q]? = H[q]?) → va_S A0 s.heap H1 locs1 → W p l e RR s m args below meth c H1 locs1 (cells + mc) (slots + ms) Qf (F0 m (pc + 3) ls rest)) : W p l e RR s m args below meth c H locs cells slots Qf (F0 m pc ls st0) := by
  intro T hT XT
  obtain ⟨v, st₀, t, T', L', h1, X', hL, e1, e2, ⟨⟨cI, cZ, ad, ζ, hv, g1, g2, hb⟩, hz, hk⟩, hst⟩ := hr T hT XT
  cases hv
  rw [h1] at hz hk
  have hal : s.vm.Alike t.vm := by rw [← e2]; exact X'.warmed.alike
  have hH' : HW (l, dC, dI, cI, cZ, ad) G τ0 ζ s T'.heap := by
    rw [e1]
    exact ⟨va_K.moved hal.symm hb.1, hb.2⟩
  have hS' : va_S A0 s.heap T'.heap (locs ++ L') := ⟨Nat.le_trans hS.1 (by rw [e1]; exact hz), fun q h1 h2 => by rw [e1, hk q (Nat.lt_of_lt_of_le h1 hS.1) (fun z => h2 (hA q z))]; exact hS.2.1 q h1 h2, fun q hq => by
      rcases List.mem_append.mp hq with h | h
      · exact hS.2.2 q h
      · exact hA _ (hL q h)⟩
  obtain ⟨t2, a1, b1⟩ := kk cI cZ ad ζ T'.heap (locs ++ L') g1 g2 hH' (by rw [e1]; exact hz) (fun q h1 h2 => by rw [e1]; exact hk q h1 h2) hS' T' rfl X'
  exact ⟨t2, hst t2 a1, b1⟩
set_option maxHeartbeats 4000000 in
set_option maxRecDepth 100000 in
/-- THE LAW, from its entry -/
theorem whole_start {p : Program} {e : Env} {s : State} {m : MethodId} {below : List Frame} {meth : Method} {c : Code} (l : Launch) (hflags : l.flags = flags0) {b L : Nat} {xs : Nat → Int32} (hL : L ≤ 3072) (C0 : lw_At p s m meth c b L xs) : W p l e room_1 s m #[Value.ref b] below meth c s.heap [] 0 0 (lw_Z below #[Value.ref b] s) (entryFrame m ([Value.ref b] : List Value).toArray 4) := by
  obtain ⟨hx, hb, hr, hml, hown, hts0, hX, hbl, hlocks, hgv⟩ := id C0
  have hts : ∀ w ∈ wsL_law, w.before #[Value.ref b] s = true := fun w h => hts0 w (wsL_law_in w h)
  have hA : ∀ q : Nat, s.heap.size ≤ q → (fun q : Nat => s.heap.size ≤ q) q := fun _ h => h
  obtain ⟨c0, iS0, hKn0⟩ := u_known (C := RX0) (T := TX0) (N := 16) (n := 16) hts inlX0 (hts (.instantiable RX0 16) (by decide +kernel))
  obtain ⟨c1, iS1, hKn1⟩ := u_known (C := RX1) (T := TX1) (N := 23) (n := 23) hts inlX1 (hts (.instantiable RX1 23) (by decide +kernel))
  obtain ⟨dC, dI, hKc⟩ : ∃ (dC : Nat → ClassId) (dI : Nat → Nat → Nat), ∀ (k : Nat) (q : vw_C), vwCl[k]? = some q → u_Kn s q.1 q.2.1 q.2.2 (dC k) (dI k) := by
    refine ⟨fun k => if k = 0 then c0 else c1, fun k => if k = 0 then iS0 else iS1, ?_⟩
    intro k q hq
    match k, hq with
    | 0, hq => cases hq; exact hKn0
    | 1, hq => cases hq; exact hKn1
    | k + 2, hq => simp [vwCl] at hq
  have hS : va_S (fun q : Nat => s.heap.size ≤ q) s.heap s.heap [] := va_S.rf
  have hK : va_K (dC, dI) vwCl [] s := ⟨hKc, fun k q h => by simp at h⟩
  have hP : va_P (dC, dI) vwCl [] s.heap := fun k q h => by simp at h
  have hD : va_D (fun q : Nat => s.heap.size ≤ q) [] := ⟨fun i j p q h => by simp at h, fun k q h => by simp at h⟩
  have hl := lv_entry ([.ref b]) (n := 4) (Nat.le_of_ble_eq_true rfl)
  rw [lg_entry_eq]
  generalize (lg_sl ([.ref b]) ++ List.replicate (4 - (lg_sl ([.ref b])).length) Slot.unset).toArray = ls at hl ⊢
  have hl : lv_has ls 4 [(0, .ref b)] := hl
  refine va_new (ci := 0) (fs := [.int 0, .int 0, .null, .null, .null, .null, .null, .null, .null, .null, .null, .null, .null, .null, .null, .null]) (C := RX0) (T := TX0) (N := 16) hx hb hts inlX0 tyX0 tyX0_ok hown (hts (.classLink RL 7 RX0) (by decide +kernel)) (hts (.instantiable RX0 16) (by decide +kernel)) (hts (.initialized RX0) (by decide +kernel)) hK hP hD hS hA rfl (fun j hj => by
    match j, hj with
    | 0, _ => rfl
    | 1, _ => rfl
    | 2, _ => rfl
    | 3, _ => rfl
    | 4, _ => rfl
    | 5, _ => rfl
    | 6, _ => rfl
    | 7, _ => rfl
    | 8, _ => rfl
    | 9, _ => rfl
    | 10, _ => rfl
    | 11, _ => rfl
    | 12, _ => rfl
    | 13, _ => rfl
    | 14, _ => rfl
    | 15, _ => rfl
    | j + 16, h => omega) (Nat.le_of_ble_eq_true rfl) (Nat.le_of_ble_eq_true rfl) dL_law_0 (fun qx H hP hD hS => ?_)
  have hP : va_P (dC, dI) vwCl [(qx, .inr (0, [.int 0, .int 0, .null, .null, .null, .null, .null, .null, .null, .null, .null, .null, .null, .null, .null, .null]))] H := hP
  have hqx : s.heap.size ≤ qx := hD.2 0 _ rfl
  have hqxl : qx < H.size := (hP 0 _ rfl).lt
  refine W.widen (k := 1) (n := 16) (Nat.le_of_ble_eq_true rfl) (Nat.le_of_ble_eq_true rfl) ?_
  refine lv_dup hx hb dL_law_3 rfl ?_
  have hzH : s.heap.size ≤ H.size := hS.1
  refine lw_ini (mc := 14) (ms := 620) (va_runI (As := []) (rest := [.ref qx]) ⟨hx, hb, hml, hown, hts⟩ (c_X0_init l dC dI qx H.size) (cwI 0 hts gL_law_X0_init rfl rfl rfl (hts (.initialized RX0) (by decide +kernel)) (hts (.methodLink RL 9 yX0_init) (by decide +kernel)) (hts (.instanceMethod yX0_init) (by decide +kernel)) rfl (by decide +kernel) ⟨Nat.le_of_ble_eq_true rfl, Nat.le_of_ble_eq_true rfl⟩) ⟨fun a U g mk q => by obtain ⟨q0, q1, qP, qK, q4⟩ := q; exact ⟨q0, q1, qP, va_K.moved (u := U) (U := U.calling g mk a) (Vm.Alike.refl U.vm) qK, q4⟩, fun U hU hW => ⟨rfl, by rw [hU], by rw [hU]; exact hP, va_K.moved hW.alike hK, hqxl⟩⟩ rfl rfl hl.1 rfl (lv_room (Nat.le_of_ble_eq_true rfl)) dL_law_4 ⟨Nat.le_of_ble_eq_true rfl, Nat.le_of_ble_eq_true rfl⟩) hS (fun q hq => by rcases hq with h | h <;> omega) (fun cI cZ ad ζ H1 locs had0 hadk hVX hz1 hk1 hS => ?_)
  refine W.widen (k := 15) (n := 636) (Nat.le_of_ble_eq_true rfl) (Nat.le_of_ble_eq_true rfl) ?_
  refine lv_astore_n (lv' := [(1, .ref qx), (0, .ref b)]) hx hb dL_law_7 rfl hl (by decide) rfl (fun ls hl => ?_)
  have hzH1 : s.heap.size ≤ H1.size := hS.1
  have hadS : ∀ k, k < 15 → s.heap.size ≤ ad k := fun k hk => by
    by_cases h : k = 0
    · subst h
      omega
    · have := hadk k (by omega) hk
      omega
  have hDX : va_D (fun q : Nat => s.heap.size ≤ q) (WD (l, dC, dI, cI, cZ, ad) GX x0 ζ) := ⟨hVX.2.2.1, fun k q hk => by
    obtain ⟨k', hk', he⟩ := hVX.2.2.2 k q hk
    show s.heap.size ≤ q.1
    rw [he]
    exact hadS k' hk'⟩
  have hPX : va_P (dC, dI) vwCl (WD (l, dC, dI, cI, cZ, ad) GX x0 ζ) H1 := hVX.2.1
  refine va_new (ci := 1) (fs := [.int 0, .int 0, .null, .null, .null, .int 0, .int 0, .null, .null, .null, .null, .null, .int 0, .null, .int 0, .int 0, .null, .int 0, .int 0, .int 0, .int 0, .null, .long 0]) (C := RX1) (T := TX1) (N := 23) hx hb hts inlX1 tyX1 tyX1_ok hown (hts (.classLink RL 10 RX1) (by decide +kernel)) (hts (.instantiable RX1 23) (by decide +kernel)) (hts (.initialized RX1) (by decide +kernel)) hK hPX hDX hS hA rfl (fun j hj => by
    match j, hj with
    | 0, _ => rfl
    | 1, _ => rfl
    | 2, _ => rfl
    | 3, _ => rfl
    | 4, _ => rfl
    | 5, _ => rfl
    | 6, _ => rfl
    | 7, _ => rfl
    | 8, _ => rfl
    | 9, _ => rfl
    | 10, _ => rfl
    | 11, _ => rfl
    | 12, _ => rfl
    | 13, _ => rfl
    | 14, _ => rfl
    | 15, _ => rfl
    | 16, _ => rfl
    | 17, _ => rfl
    | 18, _ => rfl
    | 19, _ => rfl
    | 20, _ => rfl
    | 21, _ => rfl
    | 22, _ => rfl
    | j + 23, h => omega) (Nat.le_of_ble_eq_true rfl) (Nat.le_of_ble_eq_true rfl) dL_law_8 (fun qm H2 hP2 hD2 hS => ?_)
  have hwl : (WD (l, dC, dI, cI, cZ, ad) GX x0 ζ).length = 15 := by
    show (List.mapIdx _ _).length = 15
    rw [List.length_mapIdx]
    rfl
  have hgX : ∀ k, k < 15 → ∃ t, GX.2.1[k]? = some t := fun k hk => ⟨_, List.getElem?_eq_getElem (show k < GX.2.1.length from hk)⟩
  have hXin : ∀ (k : Nat) (q : Nat × va_E), (WD (l, dC, dI, cI, cZ, ad) GX x0 ζ)[k]? = some q → (WD (l, dC, dI, cI, cZ, ad) GX x0 ζ ++ [(qm, .inr (1, [.int 0, .int 0, .null, .null, .null, .int 0, .int 0, .null, .null, .null, .null, .null, .int 0, .null, .int 0, .int 0, .null, .int 0, .int 0, .int 0, .int 0, .null, .long 0]))])[k]? = some q := fun k q hk => by
    rw [List.getElem?_append_left (List.getElem?_eq_some_iff.mp hk).1]
    exact hk
  have hqmin : (WD (l, dC, dI, cI, cZ, ad) GX x0 ζ ++ [(qm, .inr (1, [.int 0, .int 0, .null, .null, .null, .int 0, .int 0, .null, .null, .null, .null, .null, .int 0, .null, .int 0, .int 0, .null, .int 0, .int 0, .int 0, .int 0, .null, .long 0]))])[15]? = some (qm, .inr (1, [.int 0, .int 0, .null, .null, .null, .int 0, .int 0, .null, .null, .null, .null, .null, .int 0, .null, .int 0, .int 0, .null, .int 0, .int 0, .int 0, .int 0, .null, .long 0])) := by
    rw [List.getElem?_append_right (by omega), hwl]
    rfl
  have hVX2 : HW (l, dC, dI, cI, cZ, ad) GX x0 ζ s H2 := ⟨hVX.1, fun k q hk => hP2 k q (hXin k q hk), hVX.2.2⟩
  have hqm : s.heap.size ≤ qm := hD2.2 15 _ hqmin
  have hadlt : ∀ k, k < 15 → ad k < H2.size := fun k hk => by
    obtain ⟨t, ht⟩ := hgX k hk
    exact (hVX2.2.1 k _ (wd_get ht)).lt
  have hadne : ∀ k, k < 15 → ad k ≠ qm := fun k hk h => by
    obtain ⟨t, ht⟩ := hgX k hk
    have h1 := hD2.1 k 15 _ _ (hXin k _ (wd_get ht)) hqmin h
    omega
  have hPm : va_P (dC, dI) vwCl [(qm, .inr (1, [.int 0, .int 0, .null, .null, .null, .int 0, .int 0, .null, .null, .null, .null, .null, .int 0, .null, .int 0, .int 0, .null, .int 0, .int 0, .int 0, .int 0, .null, .long 0]))] H2 := fun k q hk => by
    have h1 : k < 1 := (List.getElem?_eq_some_iff.mp hk).1
    have h2 : k = 0 := by omega
    subst h2
    cases hk
    exact hP2 15 _ hqmin
  have hqml : qm < H2.size := (hPm 0 _ rfl).lt
  have hzH2 : s.heap.size ≤ H2.size := hS.1
  refine W.widen (k := 16) (n := 659) (Nat.le_of_ble_eq_true rfl) (Nat.le_of_ble_eq_true rfl) ?_
  refine lv_dup hx hb dL_law_11 rfl ?_
  refine lw_ini (mc := 11) (ms := 580) (va_runI (As := []) (rest := [.ref qm]) ⟨hx, hb, hml, hown, hts⟩ (c_X1_init l dC dI qm H2.size) (cwI 0 hts gL_law_X1_init rfl rfl rfl (hts (.initialized RX1) (by decide +kernel)) (hts (.methodLink RL 12 yX1_init) (by decide +kernel)) (hts (.instanceMethod yX1_init) (by decide +kernel)) rfl (by decide +kernel) ⟨Nat.le_of_ble_eq_true rfl, Nat.le_of_ble_eq_true rfl⟩) ⟨fun a U g mk q => by obtain ⟨q0, q1, qP, qK, q4⟩ := q; exact ⟨q0, q1, qP, va_K.moved (u := U) (U := U.calling g mk a) (Vm.Alike.refl U.vm) qK, q4⟩, fun U hU hW => ⟨rfl, by rw [hU], by rw [hU]; exact hPm, va_K.moved hW.alike hK, hqml⟩⟩ rfl rfl hl.1 rfl (lv_room (Nat.le_of_ble_eq_true rfl)) dL_law_12 ⟨Nat.le_of_ble_eq_true rfl, Nat.le_of_ble_eq_true rfl⟩) hS (fun q hq => by rcases hq with h | h <;> omega) (fun cI' cZ' ad' ζ' H3 locs' had0' hadk' hVM hz3 hk3 hS => ?_)
  refine W.widen (k := 27) (n := 1239) (Nat.le_of_ble_eq_true rfl) (Nat.le_of_ble_eq_true rfl) ?_
  refine lv_astore_n (lv' := [(2, .ref qm), (1, .ref qx), (0, .ref b)]) hx hb dL_law_15 rfl hl (by decide) rfl (fun ls hl => ?_)
  refine lv_iconst (v := zI 0) hx hb dL_law_16 (by decide) ?_
  refine lv_istore_n (lv' := [(3, .int (zI 0)), (2, .ref qm), (1, .ref qx), (0, .ref b)]) hx hb dL_law_17 rfl hl (by decide) rfl (fun ls hl => ?_)
  have hVX3 : HW (l, dC, dI, cI, cZ, ad) GX x0 ζ s H3 := HW_kept hVX2 hk3 (fun k hk h => by
    have h1 := hadlt k hk
    rcases h with h | h
    · exact hadne k hk h
    · have h2 : H2.size ≤ ad k := h
      omega)
  have hLh : Lh ls 4 (lwL (l, dC, dI, cI, cZ, ad) (l, dC, dI, cI', cZ', ad') b 0) := ⟨hl.1, hl.2.1, fun i v hi => by
    match i, hi with
    | 0, hi => cases hi; exact lv_at hl 3 rfl
    | 1, hi => cases hi; exact (lv_at hl 2 rfl).trans (by rw [← had0]; rfl)
    | 2, hi => cases hi; exact (lv_at hl 1 rfl).trans (by rw [← had0']; rfl)
    | 3, hi => cases hi; exact lv_at hl 0 rfl
    | i + 4, hi => cases hi⟩
  exact law_loop (EX := (l, dC, dI, cI, cZ, ad)) (EM := (l, dC, dI, cI', cZ', ad')) (b := b) (L := L) (xs := xs) rfl (by omega) _ 0 x0 ζ m0 ζ' rfl (by omega) (by omega) sim_0 p e s m below meth c H3 locs' ls C0 hVX3 hVM (fun k k' hk hk' h => by
      have h1 := hadlt k hk
      have h3 : ad k = ad' k' := h
      by_cases h2 : k' = 0
      · subst h2
        exact hadne k hk (h3.trans had0')
      · have h4 := hadk' k' (by omega) hk'
        omega) hadS (fun k hk => by
      show s.heap.size ≤ ad' k
      by_cases h2 : k = 0
      · subst h2
        omega
      · have h4 := hadk' k (by omega) hk
        omega) hS hLh

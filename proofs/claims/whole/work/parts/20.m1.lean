/-- what every PianoJuryModel keeps -/
def InvM (τ : Sf) : Prop := (1 ≤ τ 20 0 ∧ τ 20 0 ≤ 10) ∧ (1 ≤ τ 21 0 ∧ τ 21 0 ≤ 7) ∧ (∀ i, τ 1 i = -1 ∨ (1 ≤ τ 1 i ∧ τ 1 i ≤ 100)) ∧ (∀ i, τ 2 i = 0 ∨ τ 2 i = 1) ∧ (∀ i, τ 3 i = 0 ∨ τ 3 i = 1) ∧ (0 ≤ τ 25 0 ∧ τ 25 0 ≤ 2) ∧ (1 ≤ τ 26 0 ∧ τ 26 0 ≤ 50) ∧ (∀ i, 0 ≤ τ 4 i ∧ τ 4 i ≤ 10) ∧ (∀ i, 0 ≤ τ 5 i ∧ τ 5 i ≤ 1000000) ∧ (∀ i, 1 ≤ τ 6 i ∧ τ 6 i ≤ 60) ∧ (∀ i, 0 ≤ τ 8 i ∧ τ 8 i ≤ 4095) ∧ (∀ i, 0 ≤ τ 7 i ∧ τ 7 i ≤ 3) ∧ (∀ i, -1 ≤ τ 9 i ∧ τ 9 i ≤ 3) ∧ (τ 32 0 = 0 ∨ τ 32 0 = 1)
theorem VVm_mk {τ : Sf} (hI : InvM τ) (r p : Int) : Mk (VV τ r p) := by
  intro j
  unfold VV
  split
  · exact Or.inl rfl
  · exact hI.2.2.1 _
theorem VV_m (τ : Sf) (r p j : Int) : VV τ r p j = if τ 3 (10 * j + p) = 1 then -1 else τ 1 (70 * r + 10 * j + p) := by
  unfold VV
  rw [show 10 * j + p = j * 10 + p by omega, show 70 * r + 10 * j + p = (r * 7 + j) * 10 + p by omega]
theorem YY_m (τ : Sf) (r p j : Int) : YY τ r p j = τ 2 (70 * r + 10 * j + p) := by
  unfold YY
  rw [show 70 * r + 10 * j + p = (r * 7 + j) * 10 + p by omega]
def scM (τ : Sf) (r w p : Int) : Int := sc (VV τ r) (YY τ r) (τ 25 0) (τ 26 0) (τ 20 0) (τ 21 0) w p
theorem scM_bd {τ : Sf} {r w p : Int} (hI : InvM τ) (hw : 0 ≤ w ∧ w ≤ 5) : (cn (VV τ r p) (τ 21 0) = 0 ∧ scM τ r w p = -1) ∨ (cn (VV τ r p) (τ 21 0) ≠ 0 ∧ 0 ≤ scM τ r w p ∧ scM τ r w p ≤ 17640000) := by
  obtain ⟨hn, hm, hmk, hys, hpu, hcu, hpl, hwe, hpr, hmi, hwo, hco, hch, hhp⟩ := id hI
  exact sc_bd (fun q => VVm_mk hI r q) (fun q j => by have := hys ((r * 7 + j) * 10 + q); show 0 ≤ τ 2 _ ∧ τ 2 _ ≤ 1; omega) hcu.1 hpl (by omega) (by omega) hw
theorem ins_fin {f a : Int → Int} {c i v : Int} (hs : Srt a c) (hv : 1 ≤ v ∧ v ≤ 100) (h1 : 0 ≤ i) (h2 : i ≤ c) (hA : ∀ x : Int, 0 ≤ x → x < i → f x = a x) (hB : ∀ x : Int, i < x → x ≤ c → f x = a (x - 1)) (hC : ∀ x : Int, i ≤ x → x < c → v < a x) (hE : i = 0 ∨ a (i - 1) ≤ v) : ∀ x : Int, 0 ≤ x → x ≤ c → (if x = i then v else f x) = ins a v x := by
  intro x hx1 hx2
  unfold ins
  have m1 := hs.mono (show x - 1 ≤ x by omega)
  by_cases hx : x = i
  · subst hx
    rw [if_pos rfl]
    have g1 : x < c → v < a x := hC x (by omega)
    have g2 : c ≤ x → a x = 1000 := hs.2.2.1 x
    have g3 : x - 1 < 0 → a (x - 1) = 0 := hs.2.1 (x - 1)
    omega
  · rw [if_neg hx]
    by_cases hx3 : x < i
    · rw [hA x hx1 hx3]
      have m2 := hs.mono (show x ≤ i - 1 by omega)
      omega
    · rw [hB x (by omega) hx2]
      have g1 := hC (x - 1) (by omega) (by omega)
      omega

set_option maxHeartbeats 4000000 in
set_option maxRecDepth 100000 in
theorem c_X1_in {E : Ev} {d : Nat} {τ ζ : Sf} {Q : Option Value → Sf → Sf → Prop} {v a b : Int} (hr : (-2147483648 ≤ v ∧ v < 2147483648) ∧ (-2147483648 ≤ a ∧ a < 2147483648) ∧ (-2147483648 ≤ b ∧ b < 2147483648)) (h1 : (a ≤ v ∧ v ≤ b) → Q (some (.int (zI 1))) τ ζ) (h0 : (v < a ∨ b < v) → Q (some (.int (zI 0))) τ ζ) : C E GM kX1_in d [.int (zI v), .int (zI a), .int (zI b)] τ ζ Q := by
  refine C_of (by decide) rfl rfl ?_
  show R E GM kX1_in d 0 [some (.int (zI v)), some (.int (zI a)), some (.int (zI b))] [] τ ζ Q
  refine R_iload_n dX1_in_0 rfl ?_
  refine R_iload_n dX1_in_1 rfl ?_
  refine R_icmp_lt (tgt := 14) (by omega) dX1_in_2 (by decide) (fun c2 => ?_) (fun c2 => ?_)
  · refine R_iconst dX1_in_14 ?_
    refine R_zret rfl (by decide) dX1_in_15 ?_
    exact h0 (by omega)
  · refine R_iload_n dX1_in_5 rfl ?_
    refine R_iload_n dX1_in_6 rfl ?_
    refine R_icmp_gt (tgt := 14) (by omega) dX1_in_7 (by decide) (fun c7 => ?_) (fun c7 => ?_)
    · refine R_iconst dX1_in_14 ?_
      refine R_zret rfl (by decide) dX1_in_15 ?_
      exact h0 (by omega)
    · refine R_iconst dX1_in_10 ?_
      refine R_goto (tgt := 15) dX1_in_11 (by decide) ?_
      refine R_zret rfl (by decide) dX1_in_15 ?_
      exact h1 (by omega)

set_option maxHeartbeats 4000000 in
set_option maxRecDepth 100000 in
theorem c_X1_isRound {E : Ev} {d : Nat} {τ ζ : Sf} {Q : Option Value → Sf → Sf → Prop} {v : Int} (hr : (-2147483648 ≤ v ∧ v < 2147483648)) (h1 : (0 ≤ v ∧ v ≤ 2) → Q (some (.int (zI 1))) τ ζ) (h0 : (v < 0 ∨ 2 < v) → Q (some (.int (zI 0))) τ ζ) : C E GM kX1_isRound (d + 1) [.int (zI v)] τ ζ Q := by
  refine C_of (by decide) rfl rfl ?_
  show R E GM kX1_isRound (d + 1) 0 [some (.int (zI v))] [] τ ζ Q
  refine R_iload_n dX1_isRound_0 rfl ?_
  refine R_iconst dX1_isRound_1 ?_
  refine R_iconst dX1_isRound_2 ?_
  refine R_callS3 (k2 := kX1_in) dX1_isRound_3 rfl gX1_isRound_X1_in kkX1_in (Nat.le_of_ble_eq_true rfl) (c_X1_in (by omega) (fun b3 => ?_) (fun b3 => ?_))
  · show R _ _ _ _ 6 _ [_] _ _ _
    refine R_zret rfl (by decide) dX1_isRound_6 ?_
    exact h1 (by omega)
  · show R _ _ _ _ 6 _ [_] _ _ _
    refine R_zret rfl (by decide) dX1_isRound_6 ?_
    exact h0 (by omega)

set_option maxHeartbeats 4000000 in
set_option maxRecDepth 100000 in
theorem c_X1_isJuror {E : Ev} {d : Nat} {τ ζ : Sf} {Q : Option Value → Sf → Sf → Prop} {v : Int} (hI : InvM τ) (hr : (-2147483648 ≤ v ∧ v < 2147483648)) (h1 : (0 ≤ v ∧ v < τ 21 0) → Q (some (.int (zI 1))) τ ζ) (h0 : (v < 0 ∨ τ 21 0 ≤ v) → Q (some (.int (zI 0))) τ ζ) : C E GM kX1_isJuror (d + 1) [.ref (eAd E 0), .int (zI v)] τ ζ Q := by
  refine C_of (by decide) rfl rfl ?_
  show R E GM kX1_isJuror (d + 1) 0 [some (.ref (eAd E 0)), some (.int (zI v))] [] τ ζ Q
  obtain ⟨hn, hm, hmk, hys, hpu, hcu, hpl, hwe, hpr, hmi, hwo, hco, hch, hhp⟩ := id hI
  refine R_iload_n dX1_isJuror_0 rfl ?_
  refine R_iconst dX1_isJuror_1 ?_
  refine R_aload_n dX1_isJuror_2 rfl ?_
  refine R_getI 21 fX1_isJuror_13 rfl rfl dX1_isJuror_3 ?_
  refine R_iconst dX1_isJuror_6 ?_
  refine R_isub dX1_isJuror_7 ?_
  refine R_callS3 (k2 := kX1_in) dX1_isJuror_8 rfl gX1_isJuror_X1_in kkX1_in (Nat.le_of_ble_eq_true rfl) (c_X1_in (by omega) (fun b8 => ?_) (fun b8 => ?_))
  · show R _ _ _ _ 11 _ [_] _ _ _
    refine R_zret rfl (by decide) dX1_isJuror_11 ?_
    exact h1 (by omega)
  · show R _ _ _ _ 11 _ [_] _ _ _
    refine R_zret rfl (by decide) dX1_isJuror_11 ?_
    exact h0 (by omega)

set_option maxHeartbeats 4000000 in
set_option maxRecDepth 100000 in
theorem c_X1_isPlayer {E : Ev} {d : Nat} {τ ζ : Sf} {Q : Option Value → Sf → Sf → Prop} {v : Int} (hI : InvM τ) (hr : (-2147483648 ≤ v ∧ v < 2147483648)) (h1 : (0 ≤ v ∧ v < τ 20 0) → Q (some (.int (zI 1))) τ ζ) (h0 : (v < 0 ∨ τ 20 0 ≤ v) → Q (some (.int (zI 0))) τ ζ) : C E GM kX1_isPlayer (d + 1) [.ref (eAd E 0), .int (zI v)] τ ζ Q := by
  refine C_of (by decide) rfl rfl ?_
  show R E GM kX1_isPlayer (d + 1) 0 [some (.ref (eAd E 0)), some (.int (zI v))] [] τ ζ Q
  obtain ⟨hn, hm, hmk, hys, hpu, hcu, hpl, hwe, hpr, hmi, hwo, hco, hch, hhp⟩ := id hI
  refine R_iload_n dX1_isPlayer_0 rfl ?_
  refine R_iconst dX1_isPlayer_1 ?_
  refine R_aload_n dX1_isPlayer_2 rfl ?_
  refine R_getI 20 fX1_isPlayer_7 rfl rfl dX1_isPlayer_3 ?_
  refine R_iconst dX1_isPlayer_6 ?_
  refine R_isub dX1_isPlayer_7 ?_
  refine R_callS3 (k2 := kX1_in) dX1_isPlayer_8 rfl gX1_isPlayer_X1_in kkX1_in (Nat.le_of_ble_eq_true rfl) (c_X1_in (by omega) (fun b8 => ?_) (fun b8 => ?_))
  · show R _ _ _ _ 11 _ [_] _ _ _
    refine R_zret rfl (by decide) dX1_isPlayer_11 ?_
    exact h1 (by omega)
  · show R _ _ _ _ 11 _ [_] _ _ _
    refine R_zret rfl (by decide) dX1_isPlayer_11 ?_
    exact h0 (by omega)

set_option maxHeartbeats 4000000 in
set_option maxRecDepth 100000 in
theorem c_X1_counts {E : Ev} {d : Nat} {τ ζ : Sf} {Q : Option Value → Sf → Sf → Prop} {r j p : Int} (hI : InvM τ) (hr : 0 ≤ r ∧ r < 3) (hj : 0 ≤ j ∧ j < 7) (hp : 0 ≤ p ∧ p < 10) (h1 : VV τ r p j ≠ -1 → Q (some (.int (zI 1))) τ ζ) (h0 : VV τ r p j = -1 → Q (some (.int (zI 0))) τ ζ) : C E GM kX1_counts d [.ref (eAd E 0), .int (zI r), .int (zI j), .int (zI p)] τ ζ Q := by
  refine C_of (by decide) rfl rfl ?_
  show R E GM kX1_counts d 0 [some (.ref (eAd E 0)), some (.int (zI r)), some (.int (zI j)), some (.int (zI p))] [] τ ζ Q
  obtain ⟨hn, hm, hmk, hys, hpu, hcu, hpl, hwe, hpr, hmi, hwo, hco, hch, hhp⟩ := id hI
  have hV := VV_m τ r p j
  have hp3 := hpu (10 * j + p)
  have hm3 := hmk (70 * r + 10 * j + p)
  refine R_aload_n dX1_counts_0 rfl ?_
  refine R_getR fX1_counts_24 dX1_counts_1 ?_
  refine R_bipush dX1_counts_4 (by decide) ?_
  refine R_iload_n dX1_counts_6 rfl ?_
  refine R_imul dX1_counts_7 ?_
  refine R_iload_n dX1_counts_8 rfl ?_
  refine R_iadd dX1_counts_9 ?_
  refine R_bald (q := 3) rfl rfl rfl (by omega) rfl dX1_counts_10 ?_
  refine R_if_ne (tgt := 38) (by omega) dX1_counts_11 (by decide) (fun c11 => ?_) (fun c11 => ?_)
  · refine R_iconst dX1_counts_38 ?_
    refine R_zret rfl (by decide) dX1_counts_39 ?_
    first
    | exact h0 (by rw [hV, if_pos (by omega)])
    | exact h0 (by rw [hV, if_neg (by omega)]; omega)
  · refine R_aload_n dX1_counts_14 rfl ?_
    refine R_getR fX1_counts_16 dX1_counts_15 ?_
    refine R_bipush dX1_counts_18 (by decide) ?_
    refine R_iload_n dX1_counts_20 rfl ?_
    refine R_imul dX1_counts_21 ?_
    refine R_bipush dX1_counts_22 (by decide) ?_
    refine R_iload_n dX1_counts_24 rfl ?_
    refine R_imul dX1_counts_25 ?_
    refine R_iadd dX1_counts_26 ?_
    refine R_iload_n dX1_counts_27 rfl ?_
    refine R_iadd dX1_counts_28 ?_
    refine R_iald (q := 1) rfl rfl (by omega) rfl dX1_counts_29 ?_
    refine R_iconst dX1_counts_30 ?_
    refine R_icmp_eq (tgt := 38) (by omega) dX1_counts_31 (by decide) (fun c31 => ?_) (fun c31 => ?_)
    · refine R_iconst dX1_counts_38 ?_
      refine R_zret rfl (by decide) dX1_counts_39 ?_
      first
      | exact h0 (by rw [hV, if_pos (by omega)])
      | exact h0 (by rw [hV, if_neg (by omega)]; omega)
    · refine R_iconst dX1_counts_34 ?_
      refine R_goto (tgt := 39) dX1_counts_35 (by decide) ?_
      refine R_zret rfl (by decide) dX1_counts_39 ?_
      exact h1 (by rw [hV, if_neg (by omega)]; omega)

set_option maxHeartbeats 4000000 in
set_option maxRecDepth 100000 in
theorem c_X1_gather {E : Ev} {d : Nat} {τ ζ : Sf} {Q : Option Value → Sf → Sf → Prop} {r p : Int} (hI : InvM τ) (hr : 0 ≤ r ∧ r < 3) (hp : 0 ≤ p ∧ p < τ 20 0) (hQ : ∀ ζ' : Sf, ζ' 34 0 = cn (VV τ r p) (τ 21 0) → ζ' 35 0 = su (VV τ r p) (τ 21 0) → (∀ x : Int, 0 ≤ x → x < cn (VV τ r p) (τ 21 0) → ζ' 10 x = so (VV τ r p) (τ 21 0) x) → (∀ k : Nat, 36 ≤ k → ζ' k = ζ k) → Q none τ ζ') : C E GM kX1_gather (d + 1) [.ref (eAd E 0), .int (zI r), .int (zI p)] τ ζ Q := by
  refine C_of (by decide) rfl rfl ?_
  show R E GM kX1_gather (d + 1) 0 [some (.ref (eAd E 0)), some (.int (zI r)), some (.int (zI p)), none, none, none] [] τ ζ Q
  obtain ⟨hn, hm, hmk, hys, hpu, hcu, hpl, hwe, hpr, hmi, hwo, hco, hch, hhp⟩ := id hI
  have loop : ∀ (N : Nat) (j : Int) (o4 o5 : Option Value) (ζ' : Sf), (τ 21 0 - j).toNat = N → 0 ≤ j → j ≤ τ 21 0 → ζ' 34 0 = cn (VV τ r p) j → ζ' 35 0 = su (VV τ r p) j → (∀ x : Int, 0 ≤ x → x < cn (VV τ r p) j → ζ' 10 x = so (VV τ r p) j x) → (∀ k : Nat, 36 ≤ k → ζ' k = ζ k) → R E GM kX1_gather (d + 1) 12 [some (.ref (eAd E 0)), some (.int (zI r)), some (.int (zI p)), some (.int (zI j)), o4, o5] [] τ ζ' Q := by
    refine st_ind (fun N ih => ?_)
    intro j o4 o5 ζ' hN hj hj2 hc hu hz hK
    have hV := VV_m τ r p j
    have hb := VVm_mk hI r p j
    have hcb := cn_bd (v := (VV τ r p)) hj
    have hst := so_srt' (VVm_mk hI r p) hj
    refine R_iload_n dX1_gather_12 rfl ?_
    refine R_aload_n dX1_gather_13 rfl ?_
    refine R_getI 21 fX1_gather_13 rfl rfl dX1_gather_14 ?_
    refine R_icmp_ge (tgt := 131) (by omega) dX1_gather_17 (by decide) (fun c17 => ?_) (fun c17 => ?_)
    · refine R_vret rfl dX1_gather_131 ?_
      have e : j = τ 21 0 := by omega
      subst e
      exact hQ _ hc hu hz hK
    · refine R_aload_n dX1_gather_20 rfl ?_
      refine R_iload_n dX1_gather_21 rfl ?_
      refine R_iload_n dX1_gather_22 rfl ?_
      refine R_iload_n dX1_gather_23 rfl ?_
      refine R_callV3 (k2 := kX1_counts) dX1_gather_24 rfl gX1_gather_X1_counts kkX1_counts rfl rfl (Nat.le_of_ble_eq_true rfl) (c_X1_counts hI (by omega) (by omega) (by omega) (fun b24 => ?_) (fun b24 => ?_))
      · show R _ _ _ _ 27 _ [_] _ _ _
        refine R_if_eq (tgt := 125) (by decide) dX1_gather_27 (by decide) (fun h => absurd h (by decide)) (fun _ => ?_)
        have hS := cn_S (v := (VV τ r p)) hj
        have hU := su_S (v := (VV τ r p)) hj
        have hT := so_S (v := (VV τ r p)) hj
        rw [if_neg b24] at hS hU hT
        have hvb : 1 ≤ VV τ r p j ∧ VV τ r p j ≤ 100 := by omega
        have hvv : τ 1 (70 * r + 10 * j + p) = VV τ r p j := by
          by_cases h3 : τ 3 (10 * j + p) = 1
          · rw [if_pos h3] at hV
            omega
          · rw [if_neg h3] at hV
            exact hV.symm
        refine R_aload_n dX1_gather_30 rfl ?_
        refine R_getR fX1_gather_16 dX1_gather_31 ?_
        refine R_bipush dX1_gather_34 (by decide) ?_
        refine R_iload_n dX1_gather_36 rfl ?_
        refine R_imul dX1_gather_37 ?_
        refine R_bipush dX1_gather_38 (by decide) ?_
        refine R_iload_n dX1_gather_40 rfl ?_
        refine R_imul dX1_gather_41 ?_
        refine R_iadd dX1_gather_42 ?_
        refine R_iload_n dX1_gather_43 rfl ?_
        refine R_iadd dX1_gather_44 ?_
        refine R_iald (q := 1) rfl rfl (by omega) rfl dX1_gather_45 ?_
        rw [hvv]
        refine R_istore dX1_gather_46 rfl rfl ?_
        refine R_aload_n dX1_gather_48 rfl ?_
        refine R_getIs 34 fX1_gather_78 rfl rfl dX1_gather_49 ?_
        rw [hc]
        refine R_istore dX1_gather_52 rfl rfl ?_
        have fin : ∀ (i : Int) (ζi : Sf), 0 ≤ i → i ≤ cn (VV τ r p) j → (∀ x : Int, 0 ≤ x → x < i → ζi 10 x = so (VV τ r p) j x) → (∀ x : Int, i < x → x ≤ cn (VV τ r p) j → ζi 10 x = so (VV τ r p) j (x - 1)) → (∀ x : Int, i ≤ x → x < cn (VV τ r p) j → VV τ r p j < so (VV τ r p) j x) → (∀ k : Nat, k ≠ 10 → ζi k = ζ' k) → (i = 0 ∨ so (VV τ r p) j (i - 1) ≤ VV τ r p j) → R E GM kX1_gather (d + 1) 95 [some (.ref (eAd E 0)), some (.int (zI r)), some (.int (zI p)), some (.int (zI j)), some (.int (zI ((VV τ r p j)))), some (.int (zI i))] [] τ ζi Q := by
          intro i ζi h1 h2 hA hB hC hK2 hE
          refine R_aload_n dX1_gather_95 rfl ?_
          refine R_getR fX1_gather_51 dX1_gather_96 ?_
          refine R_iload dX1_gather_99 rfl ?_
          refine R_iload dX1_gather_101 rfl ?_
          refine R_iasts (q := 10) GMok rfl rfl (by omega) rfl dX1_gather_103 ?_
          refine R_aload_n dX1_gather_104 rfl ?_
          refine R_dup rfl dX1_gather_105 ?_
          refine R_getIs 34 fX1_gather_78 rfl rfl dX1_gather_106 ?_
          refine R_iconst dX1_gather_109 ?_
          refine R_iadd dX1_gather_110 ?_
          refine R_putIs 34 fX1_gather_78 rfl rfl rfl (by decide +kernel) dX1_gather_111 ?_
          refine R_aload_n dX1_gather_114 rfl ?_
          refine R_dup rfl dX1_gather_115 ?_
          refine R_getIs 35 fX1_gather_81 rfl rfl dX1_gather_116 ?_
          refine R_iload dX1_gather_119 rfl ?_
          refine R_iadd dX1_gather_121 ?_
          refine R_putIs 35 fX1_gather_81 rfl rfl rfl (by decide +kernel) dX1_gather_122 ?_
          refine R_iinc dX1_gather_125 rfl rfl rfl ?_
          refine R_goto (tgt := 12) dX1_gather_128 (by decide) ?_
          refine ih _ (by omega) (j + 1) _ _ _ rfl (by omega) (by omega) ?_ ?_ ?_ ?_
          · rw [up_ne (by decide), up_at, if_pos rfl, up_ne (by decide), hK2 34 (by decide), hS]
            omega
          · rw [up_at, if_pos rfl, up_ne (by decide), up_ne (by decide), hK2 35 (by decide), hU]
            omega
          · intro x g1 g2
            rw [up_ne (by decide), up_ne (by decide), up_at, hT]
            exact ins_fin hst hvb h1 h2 hA hB hC hE x g1 (by omega)
          · intro k hk
            rw [up_ne (by omega), up_ne (by omega), up_ne (by omega), hK2 k (by omega)]
            exact hK k hk
        have loop2 : ∀ (N2 : Nat) (i : Int) (ζi : Sf), i.toNat = N2 → 0 ≤ i → i ≤ cn (VV τ r p) j → (∀ x : Int, 0 ≤ x → x < i → ζi 10 x = so (VV τ r p) j x) → (∀ x : Int, i < x → x ≤ cn (VV τ r p) j → ζi 10 x = so (VV τ r p) j (x - 1)) → (∀ x : Int, i ≤ x → x < cn (VV τ r p) j → VV τ r p j < so (VV τ r p) j x) → (∀ k : Nat, k ≠ 10 → ζi k = ζ' k) → R E GM kX1_gather (d + 1) 54 [some (.ref (eAd E 0)), some (.int (zI r)), some (.int (zI p)), some (.int (zI j)), some (.int (zI ((VV τ r p j)))), some (.int (zI i))] [] τ ζi Q := by
          refine st_ind (fun N2 ih2 => ?_)
          intro i ζi hN2 h1 h2 hA hB hC hK2
          refine R_iload dX1_gather_54 rfl ?_
          refine R_if_le (tgt := 95) (by omega) dX1_gather_56 (by decide) (fun c56 => ?_) (fun c56 => ?_)
          · exact fin i ζi h1 h2 hA hB hC hK2 (by omega)
          · have hi1 := hA (i - 1) (by omega) (by omega)
            have hi2 := hst.2.2.2 (i - 1) (by omega) (by omega)
            refine R_aload_n dX1_gather_59 rfl ?_
            refine R_getR fX1_gather_51 dX1_gather_60 ?_
            refine R_iload dX1_gather_63 rfl ?_
            refine R_iconst dX1_gather_65 ?_
            refine R_isub dX1_gather_66 ?_
            refine R_ialds (q := 10) rfl rfl (by omega) rfl dX1_gather_67 ?_
            refine R_iload dX1_gather_68 rfl ?_
            refine R_icmp_le (tgt := 95) (by omega) dX1_gather_70 (by decide) (fun c70 => ?_) (fun c70 => ?_)
            · exact fin i ζi h1 h2 hA hB hC hK2 (by omega)
            · refine R_aload_n dX1_gather_73 rfl ?_
              refine R_getR fX1_gather_51 dX1_gather_74 ?_
              refine R_iload dX1_gather_77 rfl ?_
              refine R_aload_n dX1_gather_79 rfl ?_
              refine R_getR fX1_gather_51 dX1_gather_80 ?_
              refine R_iload dX1_gather_83 rfl ?_
              refine R_iconst dX1_gather_85 ?_
              refine R_isub dX1_gather_86 ?_
              refine R_ialds (q := 10) rfl rfl (by omega) rfl dX1_gather_87 ?_
              refine R_iasts (q := 10) GMok rfl rfl (by omega) rfl dX1_gather_88 ?_
              refine R_iinc dX1_gather_89 rfl rfl rfl ?_
              refine R_goto (tgt := 54) dX1_gather_92 (by decide) ?_
              refine ih2 (i - 1).toNat (by omega) (i - 1) _ rfl (by omega) (by omega) (fun x g1 g2 => ?_) (fun x g1 g2 => ?_) (fun x g1 g2 => ?_) (fun k hk => by rw [up_ne hk]; exact hK2 k hk)
              · rw [up_at, if_neg (by omega)]
                exact hA x g1 (by omega)
              · rw [up_at]
                by_cases hx : x = i
                · subst hx
                  rw [if_pos rfl]
                  exact hi1
                · rw [if_neg hx]
                  exact hB x (by omega) g2
              · by_cases hx : x = i - 1
                · subst hx
                  omega
                · exact hC x (by omega) g2
        exact loop2 _ _ ζ' rfl (by omega) (by omega) hz (fun x h1 h2 => by omega) (fun x h1 h2 => by omega) (fun k _ => rfl)
      · show R _ _ _ _ 27 _ [_] _ _ _
        refine R_if_eq (tgt := 125) (by decide) dX1_gather_27 (by decide) (fun _ => ?_) (fun h => absurd h (by decide))
        refine R_iinc dX1_gather_125 rfl rfl rfl ?_
        refine R_goto (tgt := 12) dX1_gather_128 (by decide) ?_
        have hS := cn_S (v := (VV τ r p)) hj
        have hU := su_S (v := (VV τ r p)) hj
        have hT := so_S (v := (VV τ r p)) hj
        rw [if_pos b24] at hS hU hT
        refine ih _ (by omega) (j + 1) _ _ ζ' rfl (by omega) (by omega) (by omega) (by omega) (by rw [hT]; exact fun x g1 g2 => hz x g1 (by omega)) hK
  refine R_aload_n dX1_gather_0 rfl ?_
  refine R_iconst dX1_gather_1 ?_
  refine R_putIs 34 fX1_gather_78 rfl rfl rfl (by decide +kernel) dX1_gather_2 ?_
  refine R_aload_n dX1_gather_5 rfl ?_
  refine R_iconst dX1_gather_6 ?_
  refine R_putIs 35 fX1_gather_81 rfl rfl rfl (by decide +kernel) dX1_gather_7 ?_
  refine R_iconst dX1_gather_10 ?_
  refine R_istore_n dX1_gather_11 rfl rfl ?_
  exact loop _ 0 none none _ rfl (by omega) (by omega) (by rw [up_ne (by decide), up_at, if_pos rfl, cn_0]) (by rw [up_at, if_pos rfl]; exact (sm_ge (by omega)).symm) (fun x h1 h2 => by rw [cn_0] at h2; omega) (fun k hk => by rw [up_ne (by omega), up_ne (by omega)])

set_option maxHeartbeats 4000000 in
set_option maxRecDepth 100000 in
theorem c_X1_cutOf {E : Ev} {d : Nat} {τ ζ : Sf} {Q : Option Value → Sf → Sf → Prop} {c : Int} (hI : InvM τ) (hc : ζ 34 0 = c) (hc7 : 1 ≤ c ∧ c ≤ 7) (hQ : ∀ z : Int, z = 176400 / (c - 2 * (if 2 * τ 25 0 < c then τ 25 0 else 0)) * sm (ζ 10) (if 2 * τ 25 0 < c then τ 25 0 else 0) (c - (if 2 * τ 25 0 < c then τ 25 0 else 0)) → Q (some (.int (zI z))) τ ζ) : C E GM kX1_cutOf d [.ref (eAd E 0)] τ ζ Q := by
  refine C_of (by decide) rfl rfl ?_
  show R E GM kX1_cutOf d 0 [some (.ref (eAd E 0)), none, none, none] [] τ ζ Q
  obtain ⟨hn, hm, hmk, hys, hpu, hcu, hpl, hwe, hpr, hmi, hwo, hco, hch, hhp⟩ := id hI
  have go : ∀ kc : Int, kc = (if 2 * τ 25 0 < c then τ 25 0 else 0) → R E GM kX1_cutOf d 23 [some (.ref (eAd E 0)), none, none, none] [.int (zI kc)] τ ζ Q := by
    intro kc hkc
    have hk : 0 ≤ kc ∧ 2 * kc < c := by
      rw [hkc]
      split <;> omega
    rw [← hkc] at hQ
    have loop : ∀ (N : Nat) (i s : Int), (c - kc - i).toNat = N → 0 ≤ i → i ≤ 7 → s + sm (ζ 10) i (c - kc) = sm (ζ 10) kc (c - kc) → R E GM kX1_cutOf d 28 [some (.ref (eAd E 0)), some (.int (zI kc)), some (.int (zI s)), some (.int (zI i))] [] τ ζ Q := by
      refine st_ind (fun N ih => ?_)
      intro i s hN hi hi2 hs
      refine R_iload_n dX1_cutOf_28 rfl ?_
      refine R_aload_n dX1_cutOf_29 rfl ?_
      refine R_getIs 34 fX1_cutOf_78 rfl rfl dX1_cutOf_30 ?_
      refine R_iload_n dX1_cutOf_33 rfl ?_
      refine R_isub dX1_cutOf_34 ?_
      refine R_icmp_ge (tgt := 53) (by omega) dX1_cutOf_35 (by decide) (fun c35 => ?_) (fun c35 => ?_)
      · rw [sm_ge (by omega)] at hs
        refine R_ldc 176400 dX1_cutOf_53 cnX1_cutOf_87 rfl ?_
        refine R_aload_n dX1_cutOf_55 rfl ?_
        refine R_getIs 34 fX1_cutOf_78 rfl rfl dX1_cutOf_56 ?_
        refine R_iconst dX1_cutOf_59 ?_
        refine R_iload_n dX1_cutOf_60 rfl ?_
        refine R_imul dX1_cutOf_61 ?_
        refine R_isub dX1_cutOf_62 ?_
        refine R_idiv (by omega) dX1_cutOf_63 ?_
        refine R_iload_n dX1_cutOf_64 rfl ?_
        refine R_imul dX1_cutOf_65 ?_
        refine R_iret rfl dX1_cutOf_66 ?_
        rw [hc]
        exact hQ _ (by rw [show s = sm (ζ 10) kc (c - kc) by omega])
      · refine R_iload_n dX1_cutOf_38 rfl ?_
        refine R_aload_n dX1_cutOf_39 rfl ?_
        refine R_getR fX1_cutOf_51 dX1_cutOf_40 ?_
        refine R_iload_n dX1_cutOf_43 rfl ?_
        refine R_ialds (q := 10) rfl rfl (by omega) rfl dX1_cutOf_44 ?_
        refine R_iadd dX1_cutOf_45 ?_
        refine R_istore_n dX1_cutOf_46 rfl rfl ?_
        refine R_iinc dX1_cutOf_47 rfl rfl rfl ?_
        refine R_goto (tgt := 28) dX1_cutOf_50 (by decide) ?_
        exact ih _ (by omega) (i + 1) _ rfl (by omega) (by omega) (by rw [sm_lt (by omega)] at hs; omega)
    refine R_istore_n dX1_cutOf_23 rfl rfl ?_
    refine R_iconst dX1_cutOf_24 ?_
    refine R_istore_n dX1_cutOf_25 rfl rfl ?_
    refine R_iload_n dX1_cutOf_26 rfl ?_
    refine R_istore_n dX1_cutOf_27 rfl rfl ?_
    exact loop _ _ 0 rfl (by omega) (by omega) (by omega)
  refine R_aload_n dX1_cutOf_0 rfl ?_
  refine R_getIs 34 fX1_cutOf_78 rfl rfl dX1_cutOf_1 ?_
  refine R_iconst dX1_cutOf_4 ?_
  refine R_aload_n dX1_cutOf_5 rfl ?_
  refine R_getI 25 fX1_cutOf_27 rfl rfl dX1_cutOf_6 ?_
  refine R_imul dX1_cutOf_9 ?_
  refine R_isub dX1_cutOf_10 ?_
  refine R_iconst dX1_cutOf_11 ?_
  refine R_icmp_ge (tgt := 19) (by omega) dX1_cutOf_12 (by decide) (fun c12 => ?_) (fun c12 => ?_)
  · refine R_aload_n dX1_cutOf_19 rfl ?_
    refine R_getI 25 fX1_cutOf_27 rfl rfl dX1_cutOf_20 ?_
    exact go _ (by first | rw [if_pos (show 2 * τ 25 0 < c by omega)] | rw [if_neg (show ¬ 2 * τ 25 0 < c by omega)])
  · refine R_iconst dX1_cutOf_15 ?_
    refine R_goto (tgt := 23) dX1_cutOf_16 (by decide) ?_
    exact go _ (by first | rw [if_pos (show 2 * τ 25 0 < c by omega)] | rw [if_neg (show ¬ 2 * τ 25 0 < c by omega)])

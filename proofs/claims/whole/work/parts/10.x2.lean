theorem cn_mono {v : Int → Int} {j J : Int} (h0 : 0 ≤ j) (h : j ≤ J) : cn v j ≤ cn v J := by
  have h1 : ∀ n : Nat, cn v j ≤ cn v (j + n) := by
    intro n
    induction n with
    | zero => simp
    | succ n ih =>
      rw [show j + ((n + 1 : Nat) : Int) = j + n + 1 by omega, cn_S (by omega)]
      split <;> omega
  have := h1 (J - j).toNat
  rwa [show j + (((J - j).toNat : Nat) : Int) = J by omega] at this
theorem cn_0 (v : Int → Int) : cn v 0 = 0 := sm_ge (by omega)
theorem mul_bd {a b A B : Int} (h1 : 0 ≤ a ∧ a ≤ A) (h2 : 0 ≤ b ∧ b ≤ B) : 0 ≤ a * b ∧ a * b ≤ A * B := ⟨Int.mul_nonneg h1.1 h2.1, Int.le_trans (Int.mul_le_mul_of_nonneg_right h1.2 h2.1) (Int.mul_le_mul_of_nonneg_left h2.2 (by omega))⟩

set_option maxHeartbeats 4000000 in
set_option maxRecDepth 100000 in
theorem c_X0_isMarked {E : Ev} {d : Nat} {τ ζ : Sf} {Q : Option Value → Sf → Sf → Prop} {r p : Int} (hI : InvX τ) (hr : 0 ≤ r ∧ r < 3) (hp : 0 ≤ p ∧ p < τ 20 0) (h1 : cn (VV τ r p) (τ 21 0) ≠ 0 → Q (some (.int (zI 1))) τ ζ) (h0 : cn (VV τ r p) (τ 21 0) = 0 → Q (some (.int (zI 0))) τ ζ) : C E GX kX0_isMarked (d + 3) [.ref (eAd E 0), .int (zI r), .int (zI p)] τ ζ Q := by
  refine C_of (by decide) rfl rfl ?_
  show R E GX kX0_isMarked (d + 3) 0 [some (.ref (eAd E 0)), some (.int (zI r)), some (.int (zI p)), none] [] τ ζ Q
  obtain ⟨hn, hm, hmk, hys, hpu, hcu, hpl, hwe, hpr, hmi, hwo, hco, hch⟩ := id hI
  have loop : ∀ (N : Nat) (j : Int), (τ 21 0 - j).toNat = N → 0 ≤ j → j ≤ τ 21 0 → cn (VV τ r p) j = 0 → R E GX kX0_isMarked (d + 3) 2 [some (.ref (eAd E 0)), some (.int (zI r)), some (.int (zI p)), some (.int (zI j))] [] τ ζ Q := by
    refine st_ind (fun N ih => ?_)
    intro j hN hj hj2 hc
    have hb := VV_mk hI r p j
    have hS := cn_S (v := VV τ r p) hj
    refine R_iload_n dX0_isMarked_2 rfl ?_
    refine R_aload_n dX0_isMarked_3 rfl ?_
    refine R_getI 21 fX0_isMarked_13 rfl rfl dX0_isMarked_4 ?_
    refine R_icmp_ge (tgt := 29) (by omega) dX0_isMarked_7 (by decide) (fun c7 => ?_) (fun c7 => ?_)
    · refine R_iconst dX0_isMarked_29 ?_
      refine R_zret rfl (by decide) dX0_isMarked_30 ?_
      have e : j = τ 21 0 := by omega
      subst e
      exact h0 hc
    · refine R_aload_n dX0_isMarked_10 rfl ?_
      refine R_iload_n dX0_isMarked_11 rfl ?_
      refine R_iload_n dX0_isMarked_12 rfl ?_
      refine R_iload_n dX0_isMarked_13 rfl ?_
      refine R_callV3 (k2 := kX0_countedMark) dX0_isMarked_14 rfl gX0_isMarked_X0_countedMark kkX0_countedMark rfl rfl (Nat.le_of_ble_eq_true rfl) (c_X0_countedMark hI (by omega) (by omega) (by omega) (fun r14 h14 => ?_))
      subst h14
      show R _ _ _ _ 17 _ [_] _ _ _
      refine R_iconst dX0_isMarked_17 ?_
      refine R_icmp_eq (tgt := 23) (by omega) dX0_isMarked_18 (by decide) (fun c18 => ?_) (fun c18 => ?_)
      · refine R_iinc dX0_isMarked_23 rfl rfl rfl ?_
        refine R_goto (tgt := 2) dX0_isMarked_26 (by decide) ?_
        exact ih (τ 21 0 - (j + 1)).toNat (by omega) (j + 1) rfl (by omega) (by omega) (by rw [hS, if_pos (by omega)]; omega)
      · refine R_iconst dX0_isMarked_21 ?_
        refine R_zret rfl (by decide) dX0_isMarked_22 ?_
        have hm2 := cn_mono (v := VV τ r p) (j := j + 1) (J := τ 21 0) (by omega) (by omega)
        rw [hS, if_neg (by omega)] at hm2
        exact h1 (by omega)
  refine R_iconst dX0_isMarked_0 ?_
  refine R_istore_n dX0_isMarked_1 rfl rfl ?_
  exact loop _ 0 rfl (by omega) (by omega) (cn_0 _)

set_option maxHeartbeats 4000000 in
set_option maxRecDepth 100000 in
theorem c_X0_insertMark {E : Ev} {d : Nat} {τ ζ : Sf} {Q : Option Value → Sf → Sf → Prop} {c v : Int} {a : Int → Int} (hc : 0 ≤ c ∧ c ≤ 6) (hv : 1 ≤ v ∧ v ≤ 100) (hs : Srt a c) (hz : ∀ x : Int, 0 ≤ x → x < c → ζ 11 x = a x) (hQ : ∀ ζ' : Sf, (∀ x : Int, 0 ≤ x → x ≤ c → ζ' 11 x = ins a v x) → (∀ k : Nat, k ≠ 11 → ζ' k = ζ k) → Q none τ ζ') : C E GX kX0_insertMark d [.ref (eAd E 0), .int (zI c), .int (zI v)] τ ζ Q := by
  refine C_of (by decide) rfl rfl ?_
  show R E GX kX0_insertMark d 0 [some (.ref (eAd E 0)), some (.int (zI c)), some (.int (zI v)), none] [] τ ζ Q
  have fin : ∀ (i : Int) (ζ' : Sf), 0 ≤ i → i ≤ c → (∀ x : Int, 0 ≤ x → x < i → ζ' 11 x = a x) → (∀ x : Int, i < x → x ≤ c → ζ' 11 x = a (x - 1)) → (∀ x : Int, i ≤ x → x < c → v < a x) → (∀ k : Nat, k ≠ 11 → ζ' k = ζ k) → (i = 0 ∨ a (i - 1) ≤ v) → R E GX kX0_insertMark d 38 [some (.ref (eAd E 0)), some (.int (zI c)), some (.int (zI v)), some (.int (zI i))] [] τ ζ' Q := by
    intro i ζ' h1 h2 hA hB hC hK hE
    refine R_aload_n dX0_insertMark_38 rfl ?_
    refine R_getR fX0_insertMark_47 dX0_insertMark_39 ?_
    refine R_iload_n dX0_insertMark_42 rfl ?_
    refine R_iload_n dX0_insertMark_43 rfl ?_
    refine R_iasts (q := 11) GXok rfl rfl (by omega) rfl dX0_insertMark_44 ?_
    refine R_vret rfl dX0_insertMark_45 ?_
    refine hQ _ (fun x hx1 hx2 => ?_) (fun k hk => by rw [up_ne hk]; exact hK k hk)
    rw [up_at]
    unfold ins
    have m1 := hs.mono (show x - 1 ≤ x by omega)
    by_cases hx : x = i
    · subst hx
      rw [if_pos rfl]
      have g1 : x < c → v < a x := hC x (by omega)
      have g2 : c ≤ x → a x = 1000 := hs.2.2.1 x
      have g3 : x - 1 < 0 → a (x - 1) = 0 := hs.2.1 (x - 1)
      omega
    · rw [if_neg hx]
      by_cases hx3 : x < i
      · rw [hA x hx1 hx3]
        have m2 := hs.mono (show x ≤ i - 1 by omega)
        omega
      · rw [hB x (by omega) hx2]
        have g1 := hC (x - 1) (by omega) (by omega)
        omega
  have loop : ∀ (N : Nat) (i : Int) (ζ' : Sf), i.toNat = N → 0 ≤ i → i ≤ c → (∀ x : Int, 0 ≤ x → x < i → ζ' 11 x = a x) → (∀ x : Int, i < x → x ≤ c → ζ' 11 x = a (x - 1)) → (∀ x : Int, i ≤ x → x < c → v < a x) → (∀ k : Nat, k ≠ 11 → ζ' k = ζ k) → R E GX kX0_insertMark d 2 [some (.ref (eAd E 0)), some (.int (zI c)), some (.int (zI v)), some (.int (zI i))] [] τ ζ' Q := by
    refine st_ind (fun N ih => ?_)
    intro i ζ' hN h1 h2 hA hB hC hK
    refine R_iload_n dX0_insertMark_2 rfl ?_
    refine R_if_le (tgt := 38) (by omega) dX0_insertMark_3 (by decide) (fun c3 => ?_) (fun c3 => ?_)
    · exact fin i ζ' h1 h2 hA hB hC hK (by omega)
    · have hi1 := hA (i - 1) (by omega) (by omega)
      have hi2 := hs.2.2.2 (i - 1) (by omega) (by omega)
      refine R_aload_n dX0_insertMark_6 rfl ?_
      refine R_getR fX0_insertMark_47 dX0_insertMark_7 ?_
      refine R_iload_n dX0_insertMark_10 rfl ?_
      refine R_iconst dX0_insertMark_11 ?_
      refine R_isub dX0_insertMark_12 ?_
      refine R_ialds (q := 11) rfl rfl (by omega) rfl dX0_insertMark_13 ?_
      refine R_iload_n dX0_insertMark_14 rfl ?_
      refine R_icmp_le (tgt := 38) (by omega) dX0_insertMark_15 (by decide) (fun c15 => ?_) (fun c15 => ?_)
      · exact fin i ζ' h1 h2 hA hB hC hK (by omega)
      · refine R_aload_n dX0_insertMark_18 rfl ?_
        refine R_getR fX0_insertMark_47 dX0_insertMark_19 ?_
        refine R_iload_n dX0_insertMark_22 rfl ?_
        refine R_aload_n dX0_insertMark_23 rfl ?_
        refine R_getR fX0_insertMark_47 dX0_insertMark_24 ?_
        refine R_iload_n dX0_insertMark_27 rfl ?_
        refine R_iconst dX0_insertMark_28 ?_
        refine R_isub dX0_insertMark_29 ?_
        refine R_ialds (q := 11) rfl rfl (by omega) rfl dX0_insertMark_30 ?_
        refine R_iasts (q := 11) GXok rfl rfl (by omega) rfl dX0_insertMark_31 ?_
        refine R_iinc dX0_insertMark_32 rfl rfl rfl ?_
        refine R_goto (tgt := 2) dX0_insertMark_35 (by decide) ?_
        refine ih (i - 1).toNat (by omega) (i - 1) _ rfl (by omega) (by omega) (fun x g1 g2 => ?_) (fun x g1 g2 => ?_) (fun x g1 g2 => ?_) (fun k hk => by rw [up_ne hk]; exact hK k hk)
        · rw [up_at, if_neg (by omega)]
          exact hA x g1 (by omega)
        · rw [up_at]
          by_cases hx : x = i
          · subst hx
            rw [if_pos rfl]
            exact hi1
          · rw [if_neg hx]
            exact hB x (by omega) g2
        · by_cases hx : x = i - 1
          · subst hx
            omega
          · exact hC x (by omega) g2
  refine R_iload_n dX0_insertMark_0 rfl ?_
  refine R_istore_n dX0_insertMark_1 rfl rfl ?_
  exact loop _ c ζ rfl (by omega) (by omega) hz (fun x h1 h2 => by omega) (fun x h1 h2 => by omega) (fun k _ => rfl)

set_option maxHeartbeats 4000000 in
set_option maxRecDepth 100000 in
theorem c_X0_sortMarks {E : Ev} {d : Nat} {τ ζ : Sf} {Q : Option Value → Sf → Sf → Prop} {r p : Int} (hI : InvX τ) (hr : 0 ≤ r ∧ r < 3) (hp : 0 ≤ p ∧ p < τ 20 0) (hQ : ∀ (z : Int) (ζ' : Sf), z = cn (VV τ r p) (τ 21 0) → (∀ x : Int, 0 ≤ x → x < cn (VV τ r p) (τ 21 0) → ζ' 11 x = so (VV τ r p) (τ 21 0) x) → (∀ k : Nat, k ≠ 11 → ζ' k = ζ k) → Q (some (.int (zI z))) τ ζ') : C E GX kX0_sortMarks (d + 3) [.ref (eAd E 0), .int (zI r), .int (zI p)] τ ζ Q := by
  refine C_of (by decide) rfl rfl ?_
  show R E GX kX0_sortMarks (d + 3) 0 [some (.ref (eAd E 0)), some (.int (zI r)), some (.int (zI p)), none, none, none] [] τ ζ Q
  obtain ⟨hn, hm, hmk, hys, hpu, hcu, hpl, hwe, hpr, hmi, hwo, hco, hch⟩ := id hI
  have loop : ∀ (N : Nat) (j c : Int) (o : Option Value) (ζ' : Sf), (τ 21 0 - j).toNat = N → 0 ≤ j → j ≤ τ 21 0 → c = cn (VV τ r p) j → (∀ x : Int, 0 ≤ x → x < c → ζ' 11 x = so (VV τ r p) j x) → (∀ k : Nat, k ≠ 11 → ζ' k = ζ k) → R E GX kX0_sortMarks (d + 3) 5 [some (.ref (eAd E 0)), some (.int (zI r)), some (.int (zI p)), some (.int (zI c)), some (.int (zI j)), o] [] τ ζ' Q := by
    refine st_ind (fun N ih => ?_)
    intro j c o ζ' hN hj hj2 hc hz hK
    have hb := VV_mk hI r p j
    have hS := cn_S (v := VV τ r p) hj
    have hT := so_S (v := VV τ r p) hj
    have hcb := cn_bd (v := VV τ r p) hj
    have hst := so_srt' (VV_mk hI r p) hj
    rw [← hc] at hst
    refine R_iload dX0_sortMarks_5 rfl ?_
    refine R_aload_n dX0_sortMarks_7 rfl ?_
    refine R_getI 21 fX0_sortMarks_13 rfl rfl dX0_sortMarks_8 ?_
    refine R_icmp_ge (tgt := 46) (by omega) dX0_sortMarks_11 (by decide) (fun c11 => ?_) (fun c11 => ?_)
    · refine R_iload_n dX0_sortMarks_46 rfl ?_
      refine R_iret rfl dX0_sortMarks_47 ?_
      have e : j = τ 21 0 := by omega
      subst e
      exact hQ _ _ hc (fun x h1 h2 => hz x h1 (by omega)) hK
    · refine R_aload_n dX0_sortMarks_14 rfl ?_
      refine R_iload_n dX0_sortMarks_15 rfl ?_
      refine R_iload dX0_sortMarks_16 rfl ?_
      refine R_iload_n dX0_sortMarks_18 rfl ?_
      refine R_callV3 (k2 := kX0_countedMark) dX0_sortMarks_19 rfl gX0_sortMarks_X0_countedMark kkX0_countedMark rfl rfl (Nat.le_of_ble_eq_true rfl) (c_X0_countedMark hI (by omega) (by omega) (by omega) (fun r19 h19 => ?_))
      subst h19
      show R _ _ _ _ 22 _ [_] _ _ _
      refine R_istore dX0_sortMarks_22 rfl rfl ?_
      refine R_iload dX0_sortMarks_24 rfl ?_
      refine R_iconst dX0_sortMarks_26 ?_
      refine R_icmp_eq (tgt := 40) (by omega) dX0_sortMarks_27 (by decide) (fun c27 => ?_) (fun c27 => ?_)
      · refine R_iinc dX0_sortMarks_40 rfl rfl rfl ?_
        refine R_goto (tgt := 5) dX0_sortMarks_43 (by decide) ?_
        first
        | (have hv : VV τ r p j = -1 := c27
           rw [if_pos hv] at hS hT
           refine ih (τ 21 0 - (j + 1)).toNat (by omega) (j + 1) _ _ _ rfl (by omega) (by omega) ?_ ?_ ?_
           · omega
           · rw [hT]
             exact hz
           · exact hK)
        | (have hv : VV τ r p j ≠ -1 := c27
           rw [if_neg hv] at hS hT
           refine ih (τ 21 0 - (j + 1)).toNat (by omega) (j + 1) _ _ _ rfl (by omega) (by omega) ?_ ?_ ?_
           · omega
           · rw [hT]
             exact fun x h1 h2 => hz2 x h1 (by omega)
           · exact fun k hk => (hK2 k hk).trans (hK k hk))
      · refine R_aload_n dX0_sortMarks_30 rfl ?_
        refine R_iload_n dX0_sortMarks_31 rfl ?_
        refine R_iload dX0_sortMarks_32 rfl ?_
        refine R_callV2 (k2 := kX0_insertMark) dX0_sortMarks_34 rfl gX0_sortMarks_X0_insertMark kkX0_insertMark rfl rfl (Nat.le_of_ble_eq_true rfl) (c_X0_insertMark (by omega) (by omega) hst hz (fun ζ2 hz2 hK2 => ?_))
        show R _ _ _ _ 37 _ [] _ _ _
        refine R_iinc dX0_sortMarks_37 rfl rfl rfl ?_
        refine R_iinc dX0_sortMarks_40 rfl rfl rfl ?_
        refine R_goto (tgt := 5) dX0_sortMarks_43 (by decide) ?_
        first
        | (have hv : VV τ r p j = -1 := c27
           rw [if_pos hv] at hS hT
           refine ih (τ 21 0 - (j + 1)).toNat (by omega) (j + 1) _ _ _ rfl (by omega) (by omega) ?_ ?_ ?_
           · omega
           · rw [hT]
             exact hz
           · exact hK)
        | (have hv : VV τ r p j ≠ -1 := c27
           rw [if_neg hv] at hS hT
           refine ih (τ 21 0 - (j + 1)).toNat (by omega) (j + 1) _ _ _ rfl (by omega) (by omega) ?_ ?_ ?_
           · omega
           · rw [hT]
             exact fun x h1 h2 => hz2 x h1 (by omega)
           · exact fun k hk => (hK2 k hk).trans (hK k hk))
  refine R_iconst dX0_sortMarks_0 ?_
  refine R_istore_n dX0_sortMarks_1 rfl rfl ?_
  refine R_iconst dX0_sortMarks_2 ?_
  refine R_istore dX0_sortMarks_3 rfl rfl ?_
  exact loop _ 0 0 _ ζ rfl (by omega) (by omega) (cn_0 _).symm (fun x h1 h2 => by omega) (fun k _ => rfl)

set_option maxHeartbeats 4000000 in
set_option maxRecDepth 100000 in
theorem c_X0_sumBetween {E : Ev} {d : Nat} {τ ζ : Sf} {Q : Option Value → Sf → Sf → Prop} {a b : Int} (h : 0 ≤ a ∧ a ≤ 7 ∧ 0 ≤ b ∧ b ≤ 7) (hQ : ∀ z : Int, z = sm (ζ 11) a b → Q (some (.int (zI z))) τ ζ) : C E GX kX0_sumBetween d [.ref (eAd E 0), .int (zI a), .int (zI b)] τ ζ Q := by
  refine C_of (by decide) rfl rfl ?_
  show R E GX kX0_sumBetween d 0 [some (.ref (eAd E 0)), some (.int (zI a)), some (.int (zI b)), none, none] [] τ ζ Q
  have loop : ∀ (N : Nat) (i s : Int), (b - i).toNat = N → 0 ≤ i → i ≤ 7 → s + sm (ζ 11) i b = sm (ζ 11) a b → R E GX kX0_sumBetween d 5 [some (.ref (eAd E 0)), some (.int (zI a)), some (.int (zI b)), some (.int (zI s)), some (.int (zI i))] [] τ ζ Q := by
    refine st_ind (fun N ih => ?_)
    intro i s hN hi hi2 hs
    refine R_iload dX0_sumBetween_5 rfl ?_
    refine R_iload_n dX0_sumBetween_7 rfl ?_
    refine R_icmp_ge (tgt := 27) (by omega) dX0_sumBetween_8 (by decide) (fun c8 => ?_) (fun c8 => ?_)
    · refine R_iload_n dX0_sumBetween_27 rfl ?_
      refine R_iret rfl dX0_sumBetween_28 ?_
      rw [sm_ge (by omega)] at hs
      exact hQ _ (by omega)
    · refine R_iload_n dX0_sumBetween_11 rfl ?_
      refine R_aload_n dX0_sumBetween_12 rfl ?_
      refine R_getR fX0_sumBetween_47 dX0_sumBetween_13 ?_
      refine R_iload dX0_sumBetween_16 rfl ?_
      refine R_ialds (q := 11) rfl rfl (by omega) rfl dX0_sumBetween_18 ?_
      refine R_iadd dX0_sumBetween_19 ?_
      refine R_istore_n dX0_sumBetween_20 rfl rfl ?_
      refine R_iinc dX0_sumBetween_21 rfl rfl rfl ?_
      refine R_goto (tgt := 5) dX0_sumBetween_24 (by decide) ?_
      exact ih (b - (i + 1)).toNat (by omega) (i + 1) _ rfl (by omega) (by omega) (by rw [sm_lt (by omega)] at hs; omega)
  refine R_iconst dX0_sumBetween_0 ?_
  refine R_istore_n dX0_sumBetween_1 rfl rfl ?_
  refine R_iload_n dX0_sumBetween_2 rfl ?_
  refine R_istore dX0_sumBetween_3 rfl rfl ?_
  exact loop _ a 0 rfl (by omega) (by omega) (by omega)

set_option maxHeartbeats 4000000 in
set_option maxRecDepth 100000 in
theorem c_X0_meanBetween {E : Ev} {d : Nat} {τ ζ : Sf} {Q : Option Value → Sf → Sf → Prop} {a b : Int} (h : 0 ≤ a ∧ a ≤ 7 ∧ 0 ≤ b ∧ b ≤ 7) (hz : ∀ x : Int, a ≤ x → x < b → 0 ≤ ζ 11 x ∧ ζ 11 x ≤ 100) (hQ : ∀ z : Int, z = (if b ≤ a then -1 else 176400 * sm (ζ 11) a b / (b - a)) → Q (some (.int (zI z))) τ ζ) : C E GX kX0_meanBetween (d + 1) [.ref (eAd E 0), .int (zI a), .int (zI b)] τ ζ Q := by
  refine C_of (by decide) rfl rfl ?_
  show R E GX kX0_meanBetween (d + 1) 0 [some (.ref (eAd E 0)), some (.int (zI a)), some (.int (zI b))] [] τ ζ Q
  refine R_iload_n dX0_meanBetween_0 rfl ?_
  refine R_iload_n dX0_meanBetween_1 rfl ?_
  refine R_icmp_gt (tgt := 7) (by omega) dX0_meanBetween_2 (by decide) (fun c2 => ?_) (fun c2 => ?_)
  · have hsb := sm_bd (f := ζ 11) (lo := 0) (hi := 100) (b := b) a hz (by omega)
    refine R_ldc 176400 dX0_meanBetween_7 cnX0_meanBetween_196 rfl ?_
    refine R_aload_n dX0_meanBetween_9 rfl ?_
    refine R_iload_n dX0_meanBetween_10 rfl ?_
    refine R_iload_n dX0_meanBetween_11 rfl ?_
    refine R_callV2 (k2 := kX0_sumBetween) dX0_meanBetween_12 rfl gX0_meanBetween_X0_sumBetween kkX0_sumBetween rfl rfl (Nat.le_of_ble_eq_true rfl) (c_X0_sumBetween (by omega) (fun r12 h12 => ?_))
    subst h12
    show R _ _ _ _ 15 _ [_, _] _ _ _
    refine R_imul dX0_meanBetween_15 ?_
    refine R_iload_n dX0_meanBetween_16 rfl ?_
    refine R_iload_n dX0_meanBetween_17 rfl ?_
    refine R_isub dX0_meanBetween_18 ?_
    refine R_idiv (by omega) dX0_meanBetween_19 ?_
    refine R_iret rfl dX0_meanBetween_20 ?_
    exact hQ _ (by rw [if_neg (by omega)])
  · refine R_iconst dX0_meanBetween_5 ?_
    refine R_iret rfl dX0_meanBetween_6 ?_
    exact hQ _ (by rw [if_pos (by omega)])

set_option maxHeartbeats 4000000 in
set_option maxRecDepth 100000 in
theorem c_X0_cutMean {E : Ev} {d : Nat} {τ ζ : Sf} {Q : Option Value → Sf → Sf → Prop} {c : Int} (hI : InvX τ) (hc : 1 ≤ c ∧ c ≤ 7) (hz : ∀ x : Int, 0 ≤ x → x < c → 1 ≤ ζ 11 x ∧ ζ 11 x ≤ 100) (hQ : ∀ z : Int, z = 176400 * sm (ζ 11) (if 2 * τ 4 0 < c then τ 4 0 else 0) (c - (if 2 * τ 4 0 < c then τ 4 0 else 0)) / (c - 2 * (if 2 * τ 4 0 < c then τ 4 0 else 0)) → Q (some (.int (zI z))) τ ζ) : C E GX kX0_cutMean (d + 2) [.ref (eAd E 0), .int (zI c)] τ ζ Q := by
  refine C_of (by decide) rfl rfl ?_
  show R E GX kX0_cutMean (d + 2) 0 [some (.ref (eAd E 0)), some (.int (zI c)), none] [] τ ζ Q
  obtain ⟨hn, hm, hmk, hys, hpu, hcu, hpl, hwe, hpr, hmi, hwo, hco, hch⟩ := id hI
  refine R_iload_n dX0_cutMean_0 rfl ?_
  refine R_iconst dX0_cutMean_1 ?_
  refine R_aload_n dX0_cutMean_2 rfl ?_
  refine R_getR fX0_cutMean_26 dX0_cutMean_3 ?_
  refine R_iconst dX0_cutMean_6 ?_
  refine R_iald (q := 4) rfl rfl (by omega) rfl dX0_cutMean_7 ?_
  refine R_imul dX0_cutMean_8 ?_
  refine R_icmp_le (tgt := 21) (by omega) dX0_cutMean_9 (by decide) (fun c9 => ?_) (fun c9 => ?_)
  · refine R_iconst dX0_cutMean_21 ?_
    refine R_istore_n dX0_cutMean_22 rfl rfl ?_
    refine R_aload_n dX0_cutMean_23 rfl ?_
    refine R_iload_n dX0_cutMean_24 rfl ?_
    refine R_iload_n dX0_cutMean_25 rfl ?_
    refine R_iload_n dX0_cutMean_26 rfl ?_
    refine R_isub dX0_cutMean_27 ?_
    refine R_callV2 (k2 := kX0_meanBetween) dX0_cutMean_28 rfl gX0_cutMean_X0_meanBetween kkX0_meanBetween rfl rfl (Nat.le_of_ble_eq_true rfl) (c_X0_meanBetween (by omega) (fun x g1 g2 => by have := hz x (by omega) (by omega); omega) (fun r28 h28 => ?_))
    subst h28
    show R _ _ _ _ 31 _ [_] _ _ _
    refine R_iret rfl dX0_cutMean_31 ?_
    rw [if_neg (by omega)]
    refine hQ _ ?_
    first
    | rw [if_pos (show 2 * τ 4 0 < c by omega)]
    | rw [if_neg (show ¬ 2 * τ 4 0 < c by omega)]
    congr 1
    omega
  · refine R_aload_n dX0_cutMean_12 rfl ?_
    refine R_getR fX0_cutMean_26 dX0_cutMean_13 ?_
    refine R_iconst dX0_cutMean_16 ?_
    refine R_iald (q := 4) rfl rfl (by omega) rfl dX0_cutMean_17 ?_
    refine R_goto (tgt := 22) dX0_cutMean_18 (by decide) ?_
    refine R_istore_n dX0_cutMean_22 rfl rfl ?_
    refine R_aload_n dX0_cutMean_23 rfl ?_
    refine R_iload_n dX0_cutMean_24 rfl ?_
    refine R_iload_n dX0_cutMean_25 rfl ?_
    refine R_iload_n dX0_cutMean_26 rfl ?_
    refine R_isub dX0_cutMean_27 ?_
    refine R_callV2 (k2 := kX0_meanBetween) dX0_cutMean_28 rfl gX0_cutMean_X0_meanBetween kkX0_meanBetween rfl rfl (Nat.le_of_ble_eq_true rfl) (c_X0_meanBetween (by omega) (fun x g1 g2 => by have := hz x (by omega) (by omega); omega) (fun r28 h28 => ?_))
    subst h28
    show R _ _ _ _ 31 _ [_] _ _ _
    refine R_iret rfl dX0_cutMean_31 ?_
    rw [if_neg (by omega)]
    refine hQ _ ?_
    first
    | rw [if_pos (show 2 * τ 4 0 < c by omega)]
    | rw [if_neg (show ¬ 2 * τ 4 0 < c by omega)]
    congr 1
    omega

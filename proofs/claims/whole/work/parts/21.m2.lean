set_option maxHeartbeats 4000000 in
set_option maxRecDepth 100000 in
theorem c_X1_yesOf {E : Ev} {d : Nat} {τ ζ : Sf} {Q : Option Value → Sf → Sf → Prop} {r p : Int} (hI : InvM τ) (hr : 0 ≤ r ∧ r < 3) (hp : 0 ≤ p ∧ p < τ 20 0) (h7 : 1 ≤ ζ 34 0 ∧ ζ 34 0 ≤ 7) (hQ : ∀ z : Int, z = 176400 / ζ 34 0 * yn (VV τ r p) (YY τ r p) (τ 21 0) → Q (some (.int (zI z))) τ ζ) : C E GM kX1_yesOf (d + 1) [.ref (eAd E 0), .int (zI r), .int (zI p)] τ ζ Q := by
  refine C_of (by decide) rfl rfl ?_
  show R E GM kX1_yesOf (d + 1) 0 [some (.ref (eAd E 0)), some (.int (zI r)), some (.int (zI p)), none, none] [] τ ζ Q
  obtain ⟨hn, hm, hmk, hys, hpu, hcu, hpl, hwe, hpr, hmi, hwo, hco, hch, hhp⟩ := id hI
  have loop : ∀ (N : Nat) (j s : Int), (τ 21 0 - j).toNat = N → 0 ≤ j → j ≤ τ 21 0 → s + sm (fun j => if VV τ r p j = -1 then 0 else YY τ r p j) j (τ 21 0) = yn (VV τ r p) (YY τ r p) (τ 21 0) → R E GM kX1_yesOf (d + 1) 5 [some (.ref (eAd E 0)), some (.int (zI r)), some (.int (zI p)), some (.int (zI s)), some (.int (zI j))] [] τ ζ Q := by
    refine st_ind (fun N ih => ?_)
    intro j s hN hj hj2 hs
    have hY := YY_m τ r p j
    have hy2 := hys (70 * r + 10 * j + p)
    refine R_iload dX1_yesOf_5 rfl ?_
    refine R_aload_n dX1_yesOf_7 rfl ?_
    refine R_getI 21 fX1_yesOf_13 rfl rfl dX1_yesOf_8 ?_
    refine R_icmp_ge (tgt := 59) (by omega) dX1_yesOf_11 (by decide) (fun c11 => ?_) (fun c11 => ?_)
    · rw [sm_ge (by omega)] at hs
      refine R_ldc 176400 dX1_yesOf_59 cnX1_yesOf_87 rfl ?_
      refine R_aload_n dX1_yesOf_61 rfl ?_
      refine R_getIs 34 fX1_yesOf_78 rfl rfl dX1_yesOf_62 ?_
      refine R_idiv (by omega) dX1_yesOf_65 ?_
      refine R_iload_n dX1_yesOf_66 rfl ?_
      refine R_imul dX1_yesOf_67 ?_
      refine R_iret rfl dX1_yesOf_68 ?_
      exact hQ _ (by rw [show s = yn (VV τ r p) (YY τ r p) (τ 21 0) by omega])
    · refine R_iload_n dX1_yesOf_14 rfl ?_
      refine R_aload_n dX1_yesOf_15 rfl ?_
      refine R_iload_n dX1_yesOf_16 rfl ?_
      refine R_iload dX1_yesOf_17 rfl ?_
      refine R_iload_n dX1_yesOf_19 rfl ?_
      refine R_callV3 (k2 := kX1_counts) dX1_yesOf_20 rfl gX1_yesOf_X1_counts kkX1_counts rfl rfl (Nat.le_of_ble_eq_true rfl) (c_X1_counts hI (by omega) (by omega) (by omega) (fun b20 => ?_) (fun b20 => ?_))
      · show R _ _ _ _ 23 _ [_, _] _ _ _
        refine R_if_eq (tgt := 50) (by decide) dX1_yesOf_23 (by decide) (fun h => absurd h (by decide)) (fun _ => ?_)
        refine R_aload_n dX1_yesOf_26 rfl ?_
        refine R_getR fX1_yesOf_20 dX1_yesOf_27 ?_
        refine R_bipush dX1_yesOf_30 (by decide) ?_
        refine R_iload_n dX1_yesOf_32 rfl ?_
        refine R_imul dX1_yesOf_33 ?_
        refine R_bipush dX1_yesOf_34 (by decide) ?_
        refine R_iload dX1_yesOf_36 rfl ?_
        refine R_imul dX1_yesOf_38 ?_
        refine R_iadd dX1_yesOf_39 ?_
        refine R_iload_n dX1_yesOf_40 rfl ?_
        refine R_iadd dX1_yesOf_41 ?_
        refine R_bald (q := 2) rfl rfl rfl (by omega) rfl dX1_yesOf_42 ?_
        refine R_if_eq (tgt := 50) (by omega) dX1_yesOf_43 (by decide) (fun c43 => ?_) (fun c43 => ?_)
        · refine R_iconst dX1_yesOf_50 ?_
          refine R_iadd dX1_yesOf_51 ?_
          refine R_istore_n dX1_yesOf_52 rfl rfl ?_
          refine R_iinc dX1_yesOf_53 rfl rfl rfl ?_
          refine R_goto (tgt := 5) dX1_yesOf_56 (by decide) ?_
          rw [sm_lt (by omega)] at hs
          refine ih _ (by omega) (j + 1) _ rfl (by omega) (by omega) ?_
          first
          | (rw [if_pos (show VV τ r p j = -1 from b20)] at hs
             omega)
          | (rw [if_neg (show ¬ VV τ r p j = -1 from b20)] at hs
             omega)
        · refine R_iconst dX1_yesOf_46 ?_
          refine R_goto (tgt := 51) dX1_yesOf_47 (by decide) ?_
          refine R_iadd dX1_yesOf_51 ?_
          refine R_istore_n dX1_yesOf_52 rfl rfl ?_
          refine R_iinc dX1_yesOf_53 rfl rfl rfl ?_
          refine R_goto (tgt := 5) dX1_yesOf_56 (by decide) ?_
          rw [sm_lt (by omega)] at hs
          refine ih _ (by omega) (j + 1) _ rfl (by omega) (by omega) ?_
          first
          | (rw [if_pos (show VV τ r p j = -1 from b20)] at hs
             omega)
          | (rw [if_neg (show ¬ VV τ r p j = -1 from b20)] at hs
             omega)
      · show R _ _ _ _ 23 _ [_, _] _ _ _
        refine R_if_eq (tgt := 50) (by decide) dX1_yesOf_23 (by decide) (fun _ => ?_) (fun h => absurd h (by decide))
        refine R_iconst dX1_yesOf_50 ?_
        refine R_iadd dX1_yesOf_51 ?_
        refine R_istore_n dX1_yesOf_52 rfl rfl ?_
        refine R_iinc dX1_yesOf_53 rfl rfl rfl ?_
        refine R_goto (tgt := 5) dX1_yesOf_56 (by decide) ?_
        rw [sm_lt (by omega)] at hs
        refine ih _ (by omega) (j + 1) _ rfl (by omega) (by omega) ?_
        first
        | (rw [if_pos (show VV τ r p j = -1 from b20)] at hs
           omega)
        | (rw [if_neg (show ¬ VV τ r p j = -1 from b20)] at hs
           omega)
  refine R_iconst dX1_yesOf_0 ?_
  refine R_istore_n dX1_yesOf_1 rfl rfl ?_
  refine R_iconst dX1_yesOf_2 ?_
  refine R_istore dX1_yesOf_3 rfl rfl ?_
  exact loop _ 0 0 rfl (by omega) (by omega) (by unfold yn; omega)

set_option maxHeartbeats 4000000 in
set_option maxRecDepth 100000 in
theorem c_X1_beatsOf {E : Ev} {d : Nat} {τ ζ : Sf} {Q : Option Value → Sf → Sf → Prop} {r p q : Int} (hI : InvM τ) (hr : 0 ≤ r ∧ r < 3) (hp : 0 ≤ p ∧ p < τ 20 0) (hq : 0 ≤ q ∧ q < τ 20 0) (hQ : ∀ z : Int, z = dl (VV τ r p) (VV τ r q) (τ 21 0) → Q (some (.int (zI z))) τ ζ) : C E GM kX1_beatsOf (d + 1) [.ref (eAd E 0), .int (zI r), .int (zI p), .int (zI q)] τ ζ Q := by
  refine C_of (by decide) rfl rfl ?_
  show R E GM kX1_beatsOf (d + 1) 0 [some (.ref (eAd E 0)), some (.int (zI r)), some (.int (zI p)), some (.int (zI q)), none, none, none] [] τ ζ Q
  obtain ⟨hn, hm, hmk, hys, hpu, hcu, hpl, hwe, hpr, hmi, hwo, hco, hch, hhp⟩ := id hI
  have hsb := sm_bd (f := (fun j => if VV τ r p j = -1 ∨ VV τ r q j = -1 then 0 else sg (VV τ r p j - VV τ r q j))) (lo := -1) (hi := 1) (b := τ 21 0) 0 (fun x _ _ => by show -1 ≤ ite _ _ _ ∧ ite _ _ _ ≤ 1; have := sg_bd (VV τ r p x - VV τ r q x); split <;> omega) (by omega)
  have loop : ∀ (N : Nat) (j s : Int) (o : Option Value), (τ 21 0 - j).toNat = N → 0 ≤ j → j ≤ τ 21 0 → s + sm (fun j => if VV τ r p j = -1 ∨ VV τ r q j = -1 then 0 else sg (VV τ r p j - VV τ r q j)) j (τ 21 0) = sm (fun j => if VV τ r p j = -1 ∨ VV τ r q j = -1 then 0 else sg (VV τ r p j - VV τ r q j)) 0 (τ 21 0) → R E GM kX1_beatsOf (d + 1) 6 [some (.ref (eAd E 0)), some (.int (zI r)), some (.int (zI p)), some (.int (zI q)), some (.int (zI s)), some (.int (zI j)), o] [] τ ζ Q := by
    refine st_ind (fun N ih => ?_)
    intro j s o hN hj hj2 hs
    have hV1 := VV_m τ r p j
    have hV2 := VV_m τ r q j
    have hm1 := hmk (70 * r + 10 * j + p)
    have hm2 := hmk (70 * r + 10 * j + q)
    refine R_iload dX1_beatsOf_6 rfl ?_
    refine R_aload_n dX1_beatsOf_8 rfl ?_
    refine R_getI 21 fX1_beatsOf_13 rfl rfl dX1_beatsOf_9 ?_
    refine R_icmp_ge (tgt := 104) (by omega) dX1_beatsOf_12 (by decide) (fun c12 => ?_) (fun c12 => ?_)
    · rw [sm_ge (by omega)] at hs
      refine R_iload dX1_beatsOf_104 rfl ?_
      refine R_if_le (tgt := 113) (by omega) dX1_beatsOf_106 (by decide) (fun c106 => ?_) (fun c106 => ?_)
      · refine R_iload dX1_beatsOf_113 rfl ?_
        refine R_if_ge (tgt := 122) (by omega) dX1_beatsOf_115 (by decide) (fun c115 => ?_) (fun c115 => ?_)
        · refine R_iconst dX1_beatsOf_122 ?_
          refine R_iret rfl dX1_beatsOf_123 ?_
          refine hQ _ ?_
          unfold dl
          rw [show sm (fun j => if VV τ r p j = -1 ∨ VV τ r q j = -1 then 0 else sg (VV τ r p j - VV τ r q j)) 0 (τ 21 0) = s by omega]
          unfold sg
          first
          | rw [if_pos (by omega)]
          | rw [if_neg (by omega), if_pos (by omega)]
          | rw [if_neg (by omega), if_neg (by omega)]
        · refine R_iconst dX1_beatsOf_118 ?_
          refine R_goto (tgt := 123) dX1_beatsOf_119 (by decide) ?_
          refine R_iret rfl dX1_beatsOf_123 ?_
          refine hQ _ ?_
          unfold dl
          rw [show sm (fun j => if VV τ r p j = -1 ∨ VV τ r q j = -1 then 0 else sg (VV τ r p j - VV τ r q j)) 0 (τ 21 0) = s by omega]
          unfold sg
          first
          | rw [if_pos (by omega)]
          | rw [if_neg (by omega), if_pos (by omega)]
          | rw [if_neg (by omega), if_neg (by omega)]
      · refine R_iconst dX1_beatsOf_109 ?_
        refine R_goto (tgt := 123) dX1_beatsOf_110 (by decide) ?_
        refine R_iret rfl dX1_beatsOf_123 ?_
        refine hQ _ ?_
        unfold dl
        rw [show sm (fun j => if VV τ r p j = -1 ∨ VV τ r q j = -1 then 0 else sg (VV τ r p j - VV τ r q j)) 0 (τ 21 0) = s by omega]
        unfold sg
        first
        | rw [if_pos (by omega)]
        | rw [if_neg (by omega), if_pos (by omega)]
        | rw [if_neg (by omega), if_neg (by omega)]
    · refine R_aload_n dX1_beatsOf_15 rfl ?_
      refine R_iload_n dX1_beatsOf_16 rfl ?_
      refine R_iload dX1_beatsOf_17 rfl ?_
      refine R_iload_n dX1_beatsOf_19 rfl ?_
      refine R_callV3 (k2 := kX1_counts) dX1_beatsOf_20 rfl gX1_beatsOf_X1_counts kkX1_counts rfl rfl (Nat.le_of_ble_eq_true rfl) (c_X1_counts hI (by omega) (by omega) (by omega) (fun b20 => ?_) (fun b20 => ?_))
      · show R _ _ _ _ 23 _ [_] _ _ _
        refine R_if_eq (tgt := 98) (by decide) dX1_beatsOf_23 (by decide) (fun h => absurd h (by decide)) (fun _ => ?_)
        refine R_aload_n dX1_beatsOf_26 rfl ?_
        refine R_iload_n dX1_beatsOf_27 rfl ?_
        refine R_iload dX1_beatsOf_28 rfl ?_
        refine R_iload_n dX1_beatsOf_30 rfl ?_
        refine R_callV3 (k2 := kX1_counts) dX1_beatsOf_31 rfl gX1_beatsOf_X1_counts kkX1_counts rfl rfl (Nat.le_of_ble_eq_true rfl) (c_X1_counts hI (by omega) (by omega) (by omega) (fun b31 => ?_) (fun b31 => ?_))
        · show R _ _ _ _ 34 _ [_] _ _ _
          refine R_if_eq (tgt := 98) (by decide) dX1_beatsOf_34 (by decide) (fun h => absurd h (by decide)) (fun _ => ?_)
          have e1 : τ 1 (70 * r + 10 * j + p) = VV τ r p j := by
            by_cases h3 : τ 3 (10 * j + p) = 1
            · rw [if_pos h3] at hV1
              exact absurd hV1 b20
            · rw [if_neg h3] at hV1
              exact hV1.symm
          have e2 : τ 1 (70 * r + 10 * j + q) = VV τ r q j := by
            by_cases h3 : τ 3 (10 * j + q) = 1
            · rw [if_pos h3] at hV2
              exact absurd hV2 b31
            · rw [if_neg h3] at hV2
              exact hV2.symm
          refine R_aload_n dX1_beatsOf_37 rfl ?_
          refine R_getR fX1_beatsOf_16 dX1_beatsOf_38 ?_
          refine R_bipush dX1_beatsOf_41 (by decide) ?_
          refine R_iload_n dX1_beatsOf_43 rfl ?_
          refine R_imul dX1_beatsOf_44 ?_
          refine R_bipush dX1_beatsOf_45 (by decide) ?_
          refine R_iload dX1_beatsOf_47 rfl ?_
          refine R_imul dX1_beatsOf_49 ?_
          refine R_iadd dX1_beatsOf_50 ?_
          refine R_iload_n dX1_beatsOf_51 rfl ?_
          refine R_iadd dX1_beatsOf_52 ?_
          refine R_iald (q := 1) rfl rfl (by omega) rfl dX1_beatsOf_53 ?_
          refine R_aload_n dX1_beatsOf_54 rfl ?_
          refine R_getR fX1_beatsOf_16 dX1_beatsOf_55 ?_
          refine R_bipush dX1_beatsOf_58 (by decide) ?_
          refine R_iload_n dX1_beatsOf_60 rfl ?_
          refine R_imul dX1_beatsOf_61 ?_
          refine R_bipush dX1_beatsOf_62 (by decide) ?_
          refine R_iload dX1_beatsOf_64 rfl ?_
          refine R_imul dX1_beatsOf_66 ?_
          refine R_iadd dX1_beatsOf_67 ?_
          refine R_iload_n dX1_beatsOf_68 rfl ?_
          refine R_iadd dX1_beatsOf_69 ?_
          refine R_iald (q := 1) rfl rfl (by omega) rfl dX1_beatsOf_70 ?_
          refine R_isub dX1_beatsOf_71 ?_
          refine R_istore dX1_beatsOf_72 rfl rfl ?_
          refine R_iload dX1_beatsOf_74 rfl ?_
          refine R_iload dX1_beatsOf_76 rfl ?_
          refine R_if_le (tgt := 85) (by omega) dX1_beatsOf_78 (by decide) (fun c78 => ?_) (fun c78 => ?_)
          · refine R_iload dX1_beatsOf_85 rfl ?_
            refine R_if_ge (tgt := 94) (by omega) dX1_beatsOf_87 (by decide) (fun c87 => ?_) (fun c87 => ?_)
            · refine R_iconst dX1_beatsOf_94 ?_
              refine R_iadd dX1_beatsOf_95 ?_
              refine R_istore dX1_beatsOf_96 rfl rfl ?_
              refine R_iinc dX1_beatsOf_98 rfl rfl rfl ?_
              refine R_goto (tgt := 6) dX1_beatsOf_101 (by decide) ?_
              rw [sm_lt (by omega)] at hs
              refine ih _ (by omega) (j + 1) _ _ rfl (by omega) (by omega) ?_
              first
              | (rw [if_pos (show VV τ r p j = -1 ∨ VV τ r q j = -1 from Or.inl b20)] at hs
                 omega)
              | (rw [if_pos (show VV τ r p j = -1 ∨ VV τ r q j = -1 from Or.inr b31)] at hs
                 omega)
              | (rw [if_neg (show ¬ (VV τ r p j = -1 ∨ VV τ r q j = -1) by omega)] at hs
                 have hsg : sg (VV τ r p j - VV τ r q j) = if 0 < VV τ r p j - VV τ r q j then 1 else if VV τ r p j - VV τ r q j < 0 then -1 else 0 := rfl
                 rw [hsg] at hs
                 first
                 | (rw [if_pos (show 0 < VV τ r p j - VV τ r q j by omega)] at hs
                    omega)
                 | (rw [if_neg (show ¬ 0 < VV τ r p j - VV τ r q j by omega), if_pos (show VV τ r p j - VV τ r q j < 0 by omega)] at hs
                    omega)
                 | (rw [if_neg (show ¬ 0 < VV τ r p j - VV τ r q j by omega), if_neg (show ¬ VV τ r p j - VV τ r q j < 0 by omega)] at hs
                    omega))
            · refine R_iconst dX1_beatsOf_90 ?_
              refine R_goto (tgt := 95) dX1_beatsOf_91 (by decide) ?_
              refine R_iadd dX1_beatsOf_95 ?_
              refine R_istore dX1_beatsOf_96 rfl rfl ?_
              refine R_iinc dX1_beatsOf_98 rfl rfl rfl ?_
              refine R_goto (tgt := 6) dX1_beatsOf_101 (by decide) ?_
              rw [sm_lt (by omega)] at hs
              refine ih _ (by omega) (j + 1) _ _ rfl (by omega) (by omega) ?_
              first
              | (rw [if_pos (show VV τ r p j = -1 ∨ VV τ r q j = -1 from Or.inl b20)] at hs
                 omega)
              | (rw [if_pos (show VV τ r p j = -1 ∨ VV τ r q j = -1 from Or.inr b31)] at hs
                 omega)
              | (rw [if_neg (show ¬ (VV τ r p j = -1 ∨ VV τ r q j = -1) by omega)] at hs
                 have hsg : sg (VV τ r p j - VV τ r q j) = if 0 < VV τ r p j - VV τ r q j then 1 else if VV τ r p j - VV τ r q j < 0 then -1 else 0 := rfl
                 rw [hsg] at hs
                 first
                 | (rw [if_pos (show 0 < VV τ r p j - VV τ r q j by omega)] at hs
                    omega)
                 | (rw [if_neg (show ¬ 0 < VV τ r p j - VV τ r q j by omega), if_pos (show VV τ r p j - VV τ r q j < 0 by omega)] at hs
                    omega)
                 | (rw [if_neg (show ¬ 0 < VV τ r p j - VV τ r q j by omega), if_neg (show ¬ VV τ r p j - VV τ r q j < 0 by omega)] at hs
                    omega))
          · refine R_iconst dX1_beatsOf_81 ?_
            refine R_goto (tgt := 95) dX1_beatsOf_82 (by decide) ?_
            refine R_iadd dX1_beatsOf_95 ?_
            refine R_istore dX1_beatsOf_96 rfl rfl ?_
            refine R_iinc dX1_beatsOf_98 rfl rfl rfl ?_
            refine R_goto (tgt := 6) dX1_beatsOf_101 (by decide) ?_
            rw [sm_lt (by omega)] at hs
            refine ih _ (by omega) (j + 1) _ _ rfl (by omega) (by omega) ?_
            first
            | (rw [if_pos (show VV τ r p j = -1 ∨ VV τ r q j = -1 from Or.inl b20)] at hs
               omega)
            | (rw [if_pos (show VV τ r p j = -1 ∨ VV τ r q j = -1 from Or.inr b31)] at hs
               omega)
            | (rw [if_neg (show ¬ (VV τ r p j = -1 ∨ VV τ r q j = -1) by omega)] at hs
               have hsg : sg (VV τ r p j - VV τ r q j) = if 0 < VV τ r p j - VV τ r q j then 1 else if VV τ r p j - VV τ r q j < 0 then -1 else 0 := rfl
               rw [hsg] at hs
               first
               | (rw [if_pos (show 0 < VV τ r p j - VV τ r q j by omega)] at hs
                  omega)
               | (rw [if_neg (show ¬ 0 < VV τ r p j - VV τ r q j by omega), if_pos (show VV τ r p j - VV τ r q j < 0 by omega)] at hs
                  omega)
               | (rw [if_neg (show ¬ 0 < VV τ r p j - VV τ r q j by omega), if_neg (show ¬ VV τ r p j - VV τ r q j < 0 by omega)] at hs
                  omega))
        · show R _ _ _ _ 34 _ [_] _ _ _
          refine R_if_eq (tgt := 98) (by decide) dX1_beatsOf_34 (by decide) (fun _ => ?_) (fun h => absurd h (by decide))
          refine R_iinc dX1_beatsOf_98 rfl rfl rfl ?_
          refine R_goto (tgt := 6) dX1_beatsOf_101 (by decide) ?_
          rw [sm_lt (by omega)] at hs
          refine ih _ (by omega) (j + 1) _ _ rfl (by omega) (by omega) ?_
          first
          | (rw [if_pos (show VV τ r p j = -1 ∨ VV τ r q j = -1 from Or.inl b20)] at hs
             omega)
          | (rw [if_pos (show VV τ r p j = -1 ∨ VV τ r q j = -1 from Or.inr b31)] at hs
             omega)
          | (rw [if_neg (show ¬ (VV τ r p j = -1 ∨ VV τ r q j = -1) by omega)] at hs
             have hsg : sg (VV τ r p j - VV τ r q j) = if 0 < VV τ r p j - VV τ r q j then 1 else if VV τ r p j - VV τ r q j < 0 then -1 else 0 := rfl
             rw [hsg] at hs
             first
             | (rw [if_pos (show 0 < VV τ r p j - VV τ r q j by omega)] at hs
                omega)
             | (rw [if_neg (show ¬ 0 < VV τ r p j - VV τ r q j by omega), if_pos (show VV τ r p j - VV τ r q j < 0 by omega)] at hs
                omega)
             | (rw [if_neg (show ¬ 0 < VV τ r p j - VV τ r q j by omega), if_neg (show ¬ VV τ r p j - VV τ r q j < 0 by omega)] at hs
                omega))
      · show R _ _ _ _ 23 _ [_] _ _ _
        refine R_if_eq (tgt := 98) (by decide) dX1_beatsOf_23 (by decide) (fun _ => ?_) (fun h => absurd h (by decide))
        refine R_iinc dX1_beatsOf_98 rfl rfl rfl ?_
        refine R_goto (tgt := 6) dX1_beatsOf_101 (by decide) ?_
        rw [sm_lt (by omega)] at hs
        refine ih _ (by omega) (j + 1) _ _ rfl (by omega) (by omega) ?_
        first
        | (rw [if_pos (show VV τ r p j = -1 ∨ VV τ r q j = -1 from Or.inl b20)] at hs
           omega)
        | (rw [if_pos (show VV τ r p j = -1 ∨ VV τ r q j = -1 from Or.inr b31)] at hs
           omega)
        | (rw [if_neg (show ¬ (VV τ r p j = -1 ∨ VV τ r q j = -1) by omega)] at hs
           have hsg : sg (VV τ r p j - VV τ r q j) = if 0 < VV τ r p j - VV τ r q j then 1 else if VV τ r p j - VV τ r q j < 0 then -1 else 0 := rfl
           rw [hsg] at hs
           first
           | (rw [if_pos (show 0 < VV τ r p j - VV τ r q j by omega)] at hs
              omega)
           | (rw [if_neg (show ¬ 0 < VV τ r p j - VV τ r q j by omega), if_pos (show VV τ r p j - VV τ r q j < 0 by omega)] at hs
              omega)
           | (rw [if_neg (show ¬ 0 < VV τ r p j - VV τ r q j by omega), if_neg (show ¬ VV τ r p j - VV τ r q j < 0 by omega)] at hs
              omega))
  refine R_iconst dX1_beatsOf_0 ?_
  refine R_istore dX1_beatsOf_1 rfl rfl ?_
  refine R_iconst dX1_beatsOf_3 ?_
  refine R_istore dX1_beatsOf_4 rfl rfl ?_
  exact loop _ 0 0 none rfl (by omega) (by omega) (by omega)

set_option maxHeartbeats 4000000 in
set_option maxRecDepth 100000 in
theorem c_X1_hasMark {E : Ev} {d : Nat} {τ ζ : Sf} {Q : Option Value → Sf → Sf → Prop} {r p : Int} (hI : InvM τ) (hr : 0 ≤ r ∧ r < 3) (hp : 0 ≤ p ∧ p < τ 20 0) (h1 : cn (VV τ r p) (τ 21 0) ≠ 0 → Q (some (.int (zI 1))) τ ζ) (h0 : cn (VV τ r p) (τ 21 0) = 0 → Q (some (.int (zI 0))) τ ζ) : C E GM kX1_hasMark (d + 1) [.ref (eAd E 0), .int (zI r), .int (zI p)] τ ζ Q := by
  refine C_of (by decide) rfl rfl ?_
  show R E GM kX1_hasMark (d + 1) 0 [some (.ref (eAd E 0)), some (.int (zI r)), some (.int (zI p)), none, none] [] τ ζ Q
  obtain ⟨hn, hm, hmk, hys, hpu, hcu, hpl, hwe, hpr, hmi, hwo, hco, hch, hhp⟩ := id hI
  have loop : ∀ (N : Nat) (j h : Int), (τ 21 0 - j).toNat = N → 0 ≤ j → j ≤ τ 21 0 → ((h = 0 ∧ cn (VV τ r p) j = 0) ∨ (h = 1 ∧ cn (VV τ r p) j ≠ 0)) → R E GM kX1_hasMark (d + 1) 5 [some (.ref (eAd E 0)), some (.int (zI r)), some (.int (zI p)), some (.int (zI h)), some (.int (zI j))] [] τ ζ Q := by
    refine st_ind (fun N ih => ?_)
    intro j h hN hj hj2 hh
    have hS := cn_S (v := VV τ r p) hj
    have hcb := cn_bd (v := VV τ r p) hj
    refine R_iload dX1_hasMark_5 rfl ?_
    refine R_aload_n dX1_hasMark_7 rfl ?_
    refine R_getI 21 fX1_hasMark_13 rfl rfl dX1_hasMark_8 ?_
    refine R_icmp_ge (tgt := 41) (by omega) dX1_hasMark_11 (by decide) (fun c11 => ?_) (fun c11 => ?_)
    · refine R_iload_n dX1_hasMark_41 rfl ?_
      refine R_zret rfl (by omega) dX1_hasMark_42 ?_
      have e : j = τ 21 0 := by omega
      subst e
      rcases hh with ⟨rfl, hc⟩ | ⟨rfl, hc⟩
      · exact h0 hc
      · exact h1 hc
    · refine R_iload_n dX1_hasMark_14 rfl ?_
      refine R_if_ne (tgt := 29) (by omega) dX1_hasMark_15 (by decide) (fun c15 => ?_) (fun c15 => ?_)
      · refine R_iconst dX1_hasMark_29 ?_
        refine R_goto (tgt := 34) dX1_hasMark_30 (by decide) ?_
        refine R_istore_n dX1_hasMark_34 rfl rfl ?_
        refine R_iinc dX1_hasMark_35 rfl rfl rfl ?_
        refine R_goto (tgt := 5) dX1_hasMark_38 (by decide) ?_
        refine ih _ (by omega) (j + 1) _ rfl (by omega) (by omega) ?_
        first
        | (rw [if_pos b23] at hS
           omega)
        | (rw [if_neg b23] at hS
           omega)
        | (by_cases hv : VV τ r p j = -1
           · rw [if_pos hv] at hS
             omega
           · rw [if_neg hv] at hS
             omega)
      · refine R_aload_n dX1_hasMark_18 rfl ?_
        refine R_iload_n dX1_hasMark_19 rfl ?_
        refine R_iload dX1_hasMark_20 rfl ?_
        refine R_iload_n dX1_hasMark_22 rfl ?_
        refine R_callV3 (k2 := kX1_counts) dX1_hasMark_23 rfl gX1_hasMark_X1_counts kkX1_counts rfl rfl (Nat.le_of_ble_eq_true rfl) (c_X1_counts hI (by omega) (by omega) (by omega) (fun b23 => ?_) (fun b23 => ?_))
        · show R _ _ _ _ 26 _ [_] _ _ _
          refine R_if_eq (tgt := 33) (by decide) dX1_hasMark_26 (by decide) (fun h => absurd h (by decide)) (fun _ => ?_)
          refine R_iconst dX1_hasMark_29 ?_
          refine R_goto (tgt := 34) dX1_hasMark_30 (by decide) ?_
          refine R_istore_n dX1_hasMark_34 rfl rfl ?_
          refine R_iinc dX1_hasMark_35 rfl rfl rfl ?_
          refine R_goto (tgt := 5) dX1_hasMark_38 (by decide) ?_
          refine ih _ (by omega) (j + 1) _ rfl (by omega) (by omega) ?_
          first
          | (rw [if_pos b23] at hS
             omega)
          | (rw [if_neg b23] at hS
             omega)
          | (by_cases hv : VV τ r p j = -1
             · rw [if_pos hv] at hS
               omega
             · rw [if_neg hv] at hS
               omega)
        · show R _ _ _ _ 26 _ [_] _ _ _
          refine R_if_eq (tgt := 33) (by decide) dX1_hasMark_26 (by decide) (fun _ => ?_) (fun h => absurd h (by decide))
          refine R_iconst dX1_hasMark_33 ?_
          refine R_istore_n dX1_hasMark_34 rfl rfl ?_
          refine R_iinc dX1_hasMark_35 rfl rfl rfl ?_
          refine R_goto (tgt := 5) dX1_hasMark_38 (by decide) ?_
          refine ih _ (by omega) (j + 1) _ rfl (by omega) (by omega) ?_
          first
          | (rw [if_pos b23] at hS
             omega)
          | (rw [if_neg b23] at hS
             omega)
          | (by_cases hv : VV τ r p j = -1
             · rw [if_pos hv] at hS
               omega
             · rw [if_neg hv] at hS
               omega)
  refine R_iconst dX1_hasMark_0 ?_
  refine R_istore_n dX1_hasMark_1 rfl rfl ?_
  refine R_iconst dX1_hasMark_2 ?_
  refine R_istore dX1_hasMark_3 rfl rfl ?_
  exact loop _ 0 0 rfl (by omega) (by omega) (Or.inl ⟨rfl, cn_0 _⟩)

set_option maxHeartbeats 4000000 in
set_option maxRecDepth 100000 in
theorem c_X1_pairsOf {E : Ev} {d : Nat} {τ ζ : Sf} {Q : Option Value → Sf → Sf → Prop} {r p : Int} (hI : InvM τ) (hr : 0 ≤ r ∧ r < 3) (hp : 0 ≤ p ∧ p < τ 20 0) (hQ : ∀ z : Int, z = prs (VV τ r) (τ 20 0) (τ 21 0) p → Q (some (.int (zI z))) τ ζ) : C E GM kX1_pairsOf (d + 2) [.ref (eAd E 0), .int (zI r), .int (zI p)] τ ζ Q := by
  refine C_of (by decide) rfl rfl ?_
  show R E GM kX1_pairsOf (d + 2) 0 [some (.ref (eAd E 0)), some (.int (zI r)), some (.int (zI p)), none, none] [] τ ζ Q
  obtain ⟨hn, hm, hmk, hys, hpu, hcu, hpl, hwe, hpr, hmi, hwo, hco, hch, hhp⟩ := id hI
  have loop : ∀ (N : Nat) (q s : Int), (τ 20 0 - q).toNat = N → 0 ≤ q → q ≤ τ 20 0 → s + sm (fun q => if q = p ∨ cn (VV τ r q) (τ 21 0) = 0 then 0 else 1 + dl (VV τ r p) (VV τ r q) (τ 21 0)) q (τ 20 0) = prs (VV τ r) (τ 20 0) (τ 21 0) p → R E GM kX1_pairsOf (d + 2) 5 [some (.ref (eAd E 0)), some (.int (zI r)), some (.int (zI p)), some (.int (zI s)), some (.int (zI q))] [] τ ζ Q := by
    refine st_ind (fun N ih => ?_)
    intro q s hN hj hj2 hs
    refine R_iload dX1_pairsOf_5 rfl ?_
    refine R_aload_n dX1_pairsOf_7 rfl ?_
    refine R_getI 20 fX1_pairsOf_7 rfl rfl dX1_pairsOf_8 ?_
    refine R_icmp_ge (tgt := 53) (by omega) dX1_pairsOf_11 (by decide) (fun c11 => ?_) (fun c11 => ?_)
    · refine R_iload_n dX1_pairsOf_53 rfl ?_
      refine R_iret rfl dX1_pairsOf_54 ?_
      rw [sm_ge (by omega)] at hs
      exact hQ _ (by omega)
    · refine R_iload_n dX1_pairsOf_14 rfl ?_
      refine R_iload dX1_pairsOf_15 rfl ?_
      refine R_iload_n dX1_pairsOf_17 rfl ?_
      refine R_icmp_eq (tgt := 44) (by omega) dX1_pairsOf_18 (by decide) (fun c18 => ?_) (fun c18 => ?_)
      · refine R_iconst dX1_pairsOf_44 ?_
        refine R_iadd dX1_pairsOf_45 ?_
        refine R_istore_n dX1_pairsOf_46 rfl rfl ?_
        refine R_iinc dX1_pairsOf_47 rfl rfl rfl ?_
        refine R_goto (tgt := 5) dX1_pairsOf_50 (by decide) ?_
        rw [sm_lt (by omega)] at hs
        refine ih (τ 20 0 - (q + 1)).toNat (by omega) (q + 1) _ rfl (by omega) (by omega) ?_
        first
        | (rw [if_neg (show ¬ (q = p ∨ cn (VV τ r q) (τ 21 0) = 0) by omega)] at hs
           omega)
        | (rw [if_pos (show q = p ∨ cn (VV τ r q) (τ 21 0) = 0 by omega)] at hs
           omega)
      · refine R_aload_n dX1_pairsOf_21 rfl ?_
        refine R_iload_n dX1_pairsOf_22 rfl ?_
        refine R_iload dX1_pairsOf_23 rfl ?_
        refine R_callV2 (k2 := kX1_hasMark) dX1_pairsOf_25 rfl gX1_pairsOf_X1_hasMark kkX1_hasMark rfl rfl (Nat.le_of_ble_eq_true rfl) (c_X1_hasMark hI (by omega) (by omega) (fun b25 => ?_) (fun b25 => ?_))
        · show R _ _ _ _ 28 _ [_, _] _ _ _
          refine R_if_eq (tgt := 44) (by decide) dX1_pairsOf_28 (by decide) (fun h => absurd h (by decide)) (fun _ => ?_)
          refine R_iconst dX1_pairsOf_31 ?_
          refine R_aload_n dX1_pairsOf_32 rfl ?_
          refine R_iload_n dX1_pairsOf_33 rfl ?_
          refine R_iload_n dX1_pairsOf_34 rfl ?_
          refine R_iload dX1_pairsOf_35 rfl ?_
          refine R_callV3 (k2 := kX1_beatsOf) dX1_pairsOf_37 rfl gX1_pairsOf_X1_beatsOf kkX1_beatsOf rfl rfl (Nat.le_of_ble_eq_true rfl) (c_X1_beatsOf hI (by omega) (by omega) (by omega) (fun r37 h37 => ?_))
          subst h37
          show R _ _ _ _ 40 _ [_, _, _] _ _ _
          refine R_iadd dX1_pairsOf_40 ?_
          refine R_goto (tgt := 45) dX1_pairsOf_41 (by decide) ?_
          refine R_iadd dX1_pairsOf_45 ?_
          refine R_istore_n dX1_pairsOf_46 rfl rfl ?_
          refine R_iinc dX1_pairsOf_47 rfl rfl rfl ?_
          refine R_goto (tgt := 5) dX1_pairsOf_50 (by decide) ?_
          rw [sm_lt (by omega)] at hs
          refine ih (τ 20 0 - (q + 1)).toNat (by omega) (q + 1) _ rfl (by omega) (by omega) ?_
          first
          | (rw [if_neg (show ¬ (q = p ∨ cn (VV τ r q) (τ 21 0) = 0) by omega)] at hs
             omega)
          | (rw [if_pos (show q = p ∨ cn (VV τ r q) (τ 21 0) = 0 by omega)] at hs
             omega)
        · show R _ _ _ _ 28 _ [_, _] _ _ _
          refine R_if_eq (tgt := 44) (by decide) dX1_pairsOf_28 (by decide) (fun _ => ?_) (fun h => absurd h (by decide))
          refine R_iconst dX1_pairsOf_44 ?_
          refine R_iadd dX1_pairsOf_45 ?_
          refine R_istore_n dX1_pairsOf_46 rfl rfl ?_
          refine R_iinc dX1_pairsOf_47 rfl rfl rfl ?_
          refine R_goto (tgt := 5) dX1_pairsOf_50 (by decide) ?_
          rw [sm_lt (by omega)] at hs
          refine ih (τ 20 0 - (q + 1)).toNat (by omega) (q + 1) _ rfl (by omega) (by omega) ?_
          first
          | (rw [if_neg (show ¬ (q = p ∨ cn (VV τ r q) (τ 21 0) = 0) by omega)] at hs
             omega)
          | (rw [if_pos (show q = p ∨ cn (VV τ r q) (τ 21 0) = 0 by omega)] at hs
             omega)
  refine R_iconst dX1_pairsOf_0 ?_
  refine R_istore_n dX1_pairsOf_1 rfl rfl ?_
  refine R_iconst dX1_pairsOf_2 ?_
  refine R_istore dX1_pairsOf_3 rfl rfl ?_
  exact loop _ 0 0 rfl (by omega) (by omega) (by unfold prs; omega)

def pM (S pl c x : Int) : Int := min (S + pl * c) (max (S - pl * c) (x * c))
set_option maxHeartbeats 4000000 in
set_option maxRecDepth 100000 in
theorem c_X1_pulledOf {E : Ev} {d : Nat} {τ ζ : Sf} {Q : Option Value → Sf → Sf → Prop} (hI : InvM τ) (h7 : 1 ≤ ζ 34 0 ∧ ζ 34 0 ≤ 7) (h35 : 0 ≤ ζ 35 0 ∧ ζ 35 0 ≤ 700) (hz : ∀ x : Int, 0 ≤ x → x < ζ 34 0 → 1 ≤ ζ 10 x ∧ ζ 10 x ≤ 100) (hQ : ∀ z : Int, z = 176400 / (ζ 34 0 * ζ 34 0) * sm (fun i => pM (ζ 35 0) (τ 26 0) (ζ 34 0) (ζ 10 i)) 0 (ζ 34 0) → Q (some (.int (zI z))) τ ζ) : C E GM kX1_pulledOf d [.ref (eAd E 0)] τ ζ Q := by
  refine C_of (by decide) rfl rfl ?_
  show R E GM kX1_pulledOf d 0 [some (.ref (eAd E 0)), none, none, none] [] τ ζ Q
  obtain ⟨hn, hm, hmk, hys, hpu, hcu, hpl, hwe, hpr, hmi, hwo, hco, hch, hhp⟩ := id hI
  have hcp := mul_bd (a := τ 26 0) (b := ζ 34 0) (A := 50) (B := 7) (by omega) (by omega)
  have hcc := mul_bd (a := ζ 34 0) (b := ζ 34 0) (A := 7) (B := 7) (by omega) (by omega)
  have hc1 : 1 ≤ ζ 34 0 * ζ 34 0 := by
    have := Int.mul_le_mul (show (1:Int) ≤ ζ 34 0 by omega) (show (1:Int) ≤ ζ 34 0 by omega) (by omega) (by omega)
    omega
  have loop : ∀ (N : Nat) (i s : Int) (o : Option Value), (ζ 34 0 - i).toNat = N → 0 ≤ i → i ≤ ζ 34 0 → s + sm (fun i => pM (ζ 35 0) (τ 26 0) (ζ 34 0) (ζ 10 i)) i (ζ 34 0) = sm (fun i => pM (ζ 35 0) (τ 26 0) (ζ 34 0) (ζ 10 i)) 0 (ζ 34 0) → R E GM kX1_pulledOf d 4 [some (.ref (eAd E 0)), some (.int (zI s)), some (.int (zI i)), o] [] τ ζ Q := by
    refine st_ind (fun N ih => ?_)
    intro i s o hN hi hi2 hs
    refine R_iload_n dX1_pulledOf_4 rfl ?_
    refine R_aload_n dX1_pulledOf_5 rfl ?_
    refine R_getIs 34 fX1_pulledOf_78 rfl rfl dX1_pulledOf_6 ?_
    refine R_icmp_ge (tgt := 108) (by omega) dX1_pulledOf_9 (by decide) (fun c9 => ?_) (fun c9 => ?_)
    · rw [sm_ge (by omega)] at hs
      refine R_ldc 176400 dX1_pulledOf_108 cnX1_pulledOf_87 rfl ?_
      refine R_aload_n dX1_pulledOf_110 rfl ?_
      refine R_getIs 34 fX1_pulledOf_78 rfl rfl dX1_pulledOf_111 ?_
      refine R_aload_n dX1_pulledOf_114 rfl ?_
      refine R_getIs 34 fX1_pulledOf_78 rfl rfl dX1_pulledOf_115 ?_
      refine R_imul dX1_pulledOf_118 ?_
      refine R_idiv (by omega) dX1_pulledOf_119 ?_
      refine R_iload_n dX1_pulledOf_120 rfl ?_
      refine R_imul dX1_pulledOf_121 ?_
      refine R_iret rfl dX1_pulledOf_122 ?_
      exact hQ _ (by rw [show s = sm (fun i => pM (ζ 35 0) (τ 26 0) (ζ 34 0) (ζ 10 i)) 0 (ζ 34 0) by omega])
    · have hzi := hz i (by omega) (by omega)
      have hci := mul_bd (a := ζ 10 i) (b := ζ 34 0) (A := 100) (B := 7) (by omega) (by omega)
      have hpm : pM (ζ 35 0) (τ 26 0) (ζ 34 0) (ζ 10 i) = min (ζ 35 0 + τ 26 0 * ζ 34 0) (max (ζ 35 0 - τ 26 0 * ζ 34 0) (ζ 10 i * ζ 34 0)) := rfl
      refine R_aload_n dX1_pulledOf_12 rfl ?_
      refine R_getR fX1_pulledOf_51 dX1_pulledOf_13 ?_
      refine R_iload_n dX1_pulledOf_16 rfl ?_
      refine R_ialds (q := 10) rfl rfl (by omega) rfl dX1_pulledOf_17 ?_
      refine R_aload_n dX1_pulledOf_18 rfl ?_
      refine R_getIs 34 fX1_pulledOf_78 rfl rfl dX1_pulledOf_19 ?_
      refine R_imul dX1_pulledOf_22 ?_
      refine R_istore_n dX1_pulledOf_23 rfl rfl ?_
      refine R_iload_n dX1_pulledOf_24 rfl ?_
      refine R_aload_n dX1_pulledOf_25 rfl ?_
      refine R_getIs 35 fX1_pulledOf_81 rfl rfl dX1_pulledOf_26 ?_
      refine R_aload_n dX1_pulledOf_29 rfl ?_
      refine R_getI 26 fX1_pulledOf_30 rfl rfl dX1_pulledOf_30 ?_
      refine R_aload_n dX1_pulledOf_33 rfl ?_
      refine R_getIs 34 fX1_pulledOf_78 rfl rfl dX1_pulledOf_34 ?_
      refine R_imul dX1_pulledOf_37 ?_
      refine R_isub dX1_pulledOf_38 ?_
      refine R_icmp_ge (tgt := 59) (by omega) dX1_pulledOf_39 (by decide) (fun c39 => ?_) (fun c39 => ?_)
      · refine R_iload_n dX1_pulledOf_59 rfl ?_
        refine R_istore_n dX1_pulledOf_60 rfl rfl ?_
        refine R_iload_n dX1_pulledOf_61 rfl ?_
        refine R_aload_n dX1_pulledOf_62 rfl ?_
        refine R_getIs 35 fX1_pulledOf_81 rfl rfl dX1_pulledOf_63 ?_
        refine R_aload_n dX1_pulledOf_66 rfl ?_
        refine R_getI 26 fX1_pulledOf_30 rfl rfl dX1_pulledOf_67 ?_
        refine R_aload_n dX1_pulledOf_70 rfl ?_
        refine R_getIs 34 fX1_pulledOf_78 rfl rfl dX1_pulledOf_71 ?_
        refine R_imul dX1_pulledOf_74 ?_
        refine R_iadd dX1_pulledOf_75 ?_
        refine R_icmp_le (tgt := 96) (by omega) dX1_pulledOf_76 (by decide) (fun c76 => ?_) (fun c76 => ?_)
        · refine R_iload_n dX1_pulledOf_96 rfl ?_
          refine R_istore_n dX1_pulledOf_97 rfl rfl ?_
          refine R_iload_n dX1_pulledOf_98 rfl ?_
          refine R_iload_n dX1_pulledOf_99 rfl ?_
          refine R_iadd dX1_pulledOf_100 ?_
          refine R_istore_n dX1_pulledOf_101 rfl rfl ?_
          refine R_iinc dX1_pulledOf_102 rfl rfl rfl ?_
          refine R_goto (tgt := 4) dX1_pulledOf_105 (by decide) ?_
          exact ih _ (by omega) (i + 1) _ _ rfl (by omega) (by omega) (by rw [sm_lt (by omega)] at hs; omega)
        · refine R_aload_n dX1_pulledOf_79 rfl ?_
          refine R_getIs 35 fX1_pulledOf_81 rfl rfl dX1_pulledOf_80 ?_
          refine R_aload_n dX1_pulledOf_83 rfl ?_
          refine R_getI 26 fX1_pulledOf_30 rfl rfl dX1_pulledOf_84 ?_
          refine R_aload_n dX1_pulledOf_87 rfl ?_
          refine R_getIs 34 fX1_pulledOf_78 rfl rfl dX1_pulledOf_88 ?_
          refine R_imul dX1_pulledOf_91 ?_
          refine R_iadd dX1_pulledOf_92 ?_
          refine R_goto (tgt := 97) dX1_pulledOf_93 (by decide) ?_
          refine R_istore_n dX1_pulledOf_97 rfl rfl ?_
          refine R_iload_n dX1_pulledOf_98 rfl ?_
          refine R_iload_n dX1_pulledOf_99 rfl ?_
          refine R_iadd dX1_pulledOf_100 ?_
          refine R_istore_n dX1_pulledOf_101 rfl rfl ?_
          refine R_iinc dX1_pulledOf_102 rfl rfl rfl ?_
          refine R_goto (tgt := 4) dX1_pulledOf_105 (by decide) ?_
          exact ih _ (by omega) (i + 1) _ _ rfl (by omega) (by omega) (by rw [sm_lt (by omega)] at hs; omega)
      · refine R_aload_n dX1_pulledOf_42 rfl ?_
        refine R_getIs 35 fX1_pulledOf_81 rfl rfl dX1_pulledOf_43 ?_
        refine R_aload_n dX1_pulledOf_46 rfl ?_
        refine R_getI 26 fX1_pulledOf_30 rfl rfl dX1_pulledOf_47 ?_
        refine R_aload_n dX1_pulledOf_50 rfl ?_
        refine R_getIs 34 fX1_pulledOf_78 rfl rfl dX1_pulledOf_51 ?_
        refine R_imul dX1_pulledOf_54 ?_
        refine R_isub dX1_pulledOf_55 ?_
        refine R_goto (tgt := 60) dX1_pulledOf_56 (by decide) ?_
        refine R_istore_n dX1_pulledOf_60 rfl rfl ?_
        refine R_iload_n dX1_pulledOf_61 rfl ?_
        refine R_aload_n dX1_pulledOf_62 rfl ?_
        refine R_getIs 35 fX1_pulledOf_81 rfl rfl dX1_pulledOf_63 ?_
        refine R_aload_n dX1_pulledOf_66 rfl ?_
        refine R_getI 26 fX1_pulledOf_30 rfl rfl dX1_pulledOf_67 ?_
        refine R_aload_n dX1_pulledOf_70 rfl ?_
        refine R_getIs 34 fX1_pulledOf_78 rfl rfl dX1_pulledOf_71 ?_
        refine R_imul dX1_pulledOf_74 ?_
        refine R_iadd dX1_pulledOf_75 ?_
        refine R_icmp_le (tgt := 96) (by omega) dX1_pulledOf_76 (by decide) (fun c76 => ?_) (fun c76 => ?_)
        · refine R_iload_n dX1_pulledOf_96 rfl ?_
          refine R_istore_n dX1_pulledOf_97 rfl rfl ?_
          refine R_iload_n dX1_pulledOf_98 rfl ?_
          refine R_iload_n dX1_pulledOf_99 rfl ?_
          refine R_iadd dX1_pulledOf_100 ?_
          refine R_istore_n dX1_pulledOf_101 rfl rfl ?_
          refine R_iinc dX1_pulledOf_102 rfl rfl rfl ?_
          refine R_goto (tgt := 4) dX1_pulledOf_105 (by decide) ?_
          exact ih _ (by omega) (i + 1) _ _ rfl (by omega) (by omega) (by rw [sm_lt (by omega)] at hs; omega)
        · refine R_aload_n dX1_pulledOf_79 rfl ?_
          refine R_getIs 35 fX1_pulledOf_81 rfl rfl dX1_pulledOf_80 ?_
          refine R_aload_n dX1_pulledOf_83 rfl ?_
          refine R_getI 26 fX1_pulledOf_30 rfl rfl dX1_pulledOf_84 ?_
          refine R_aload_n dX1_pulledOf_87 rfl ?_
          refine R_getIs 34 fX1_pulledOf_78 rfl rfl dX1_pulledOf_88 ?_
          refine R_imul dX1_pulledOf_91 ?_
          refine R_iadd dX1_pulledOf_92 ?_
          refine R_goto (tgt := 97) dX1_pulledOf_93 (by decide) ?_
          refine R_istore_n dX1_pulledOf_97 rfl rfl ?_
          refine R_iload_n dX1_pulledOf_98 rfl ?_
          refine R_iload_n dX1_pulledOf_99 rfl ?_
          refine R_iadd dX1_pulledOf_100 ?_
          refine R_istore_n dX1_pulledOf_101 rfl rfl ?_
          refine R_iinc dX1_pulledOf_102 rfl rfl rfl ?_
          refine R_goto (tgt := 4) dX1_pulledOf_105 (by decide) ?_
          exact ih _ (by omega) (i + 1) _ _ rfl (by omega) (by omega) (by rw [sm_lt (by omega)] at hs; omega)
  refine R_iconst dX1_pulledOf_0 ?_
  refine R_istore_n dX1_pulledOf_1 rfl rfl ?_
  refine R_iconst dX1_pulledOf_2 ?_
  refine R_istore_n dX1_pulledOf_3 rfl rfl ?_
  exact loop _ 0 0 none rfl (by omega) (by omega) (by omega)

theorem w5_M {v a : Int → Int} {c S pl J : Int} (hJ : 0 ≤ J ∧ J ≤ 7) (hc : c = cn v J) (hS : S = su v J) (hz : ∀ x : Int, 0 ≤ x → x < c → a x = so v J x) : 176400 / (c * c) * sm (fun i => pM S pl c (a i)) 0 c = 176400 / (cn v J * cn v J) * sm (plf v pl J) 0 (cn v J) := by
  rw [← hc]
  congr 1
  refine sm_congr 0 (fun x h2 h3 => ?_)
  show min (S + pl * c) (max (S - pl * c) (a x * c)) = min (su v J + cn v J * pl) (max (su v J - cn v J * pl) (cn v J * so v J x))
  rw [hz x h2 h3, ← hc, ← hS, Int.mul_comm pl c, Int.mul_comm (so v J x) c]
theorem w1_M {v a : Int → Int} {c cu J : Int} (hJ : 0 ≤ J ∧ J ≤ 7) (hcu : 0 ≤ cu) (hc : c = cn v J) (h1 : 1 ≤ c) (hz : ∀ x : Int, 0 ≤ x → x < c → a x = so v J x) : 176400 / (c - 2 * (if 2 * cu < c then cu else 0)) * sm a (if 2 * cu < c then cu else 0) (c - (if 2 * cu < c then cu else 0)) = 176400 / (cn v J - 2 * ctf v cu J) * sm (so v J) (ctf v cu J) (cn v J - ctf v cu J) := by
  have hb := cn_bd (v := v) hJ.1
  subst hc
  have e : ctf v cu J = if 2 * cu < cn v J then cu else 0 := rfl
  rw [← e]
  have hk : 0 ≤ ctf v cu J ∧ 2 * ctf v cu J < cn v J := by
    rw [e]
    split <;> omega
  rw [sm_congr _ (fun x h2 h3 => hz x (by omega) (by omega))]
set_option maxHeartbeats 4000000 in
set_option maxRecDepth 100000 in
theorem c_X1_scoreOf {E : Ev} {d : Nat} {τ ζ : Sf} {Q : Option Value → Sf → Sf → Prop} {r w p : Int} (hI : InvM τ) (hr : 0 ≤ r ∧ r < 3) (hw : 0 ≤ w ∧ w ≤ 5) (hp : 0 ≤ p ∧ p < τ 20 0) (hQ : ∀ (z : Int) (ζ' : Sf), z = scM τ r w p → (∀ k : Nat, 36 ≤ k → ζ' k = ζ k) → Q (some (.int (zI z))) τ ζ') : C E GM kX1_scoreOf (d + 3) [.ref (eAd E 0), .int (zI r), .int (zI w), .int (zI p)] τ ζ Q := by
  refine C_of (by decide) rfl rfl ?_
  show R E GM kX1_scoreOf (d + 3) 0 [some (.ref (eAd E 0)), some (.int (zI r)), some (.int (zI w)), some (.int (zI p))] [] τ ζ Q
  obtain ⟨hn, hm, hmk, hys, hpu, hcu, hpl, hwe, hpr, hmi, hwo, hco, hch, hhp⟩ := id hI
  refine R_aload_n dX1_scoreOf_0 rfl ?_
  refine R_iload_n dX1_scoreOf_1 rfl ?_
  refine R_iload_n dX1_scoreOf_2 rfl ?_
  refine R_callV2 (k2 := kX1_gather) dX1_scoreOf_3 rfl gX1_scoreOf_X1_gather kkX1_gather rfl rfl (Nat.le_of_ble_eq_true rfl) (c_X1_gather hI (by omega) (by omega) (fun ζ3 hc3 hu3 hz3 hK3 => ?_))
  show R _ _ _ _ 6 _ [] _ _ _
  have hcb := cn_bd (v := VV τ r p) (J := τ 21 0) (by omega)
  have hsc := su_cn' (VVm_mk hI r p) (J := τ 21 0) (by omega)
  have hst := so_srt' (VVm_mk hI r p) (J := τ 21 0) (by omega)
  rw [← hc3] at hz3
  have hz : ∀ x : Int, 0 ≤ x → x < ζ3 34 0 → 1 ≤ ζ3 10 x ∧ ζ3 10 x ≤ 100 := fun x a b => by rw [hz3 x a b]; exact hst.2.2.2 x a (by omega)
  refine R_aload_n dX1_scoreOf_6 rfl ?_
  refine R_getIs 34 fX1_scoreOf_78 rfl rfl dX1_scoreOf_7 ?_
  refine R_if_ne (tgt := 15) (by omega) dX1_scoreOf_10 (by decide) (fun c10 => ?_) (fun c10 => ?_)
  · rcases (show w = 0 ∨ w = 1 ∨ w = 2 ∨ w = 3 ∨ w = 4 ∨ w = 5 by omega) with rfl | rfl | rfl | rfl | rfl | rfl
    · refine R_iload_n dX1_scoreOf_15 rfl ?_
      refine R_tabIn (tgt := 52) (by decide) dX1_scoreOf_16 (by decide) (off := 36) rfl (by decide) ?_
      refine R_ldc 176400 dX1_scoreOf_52 cnX1_scoreOf_87 rfl ?_
      refine R_aload_n dX1_scoreOf_54 rfl ?_
      refine R_getIs 34 fX1_scoreOf_78 rfl rfl dX1_scoreOf_55 ?_
      refine R_idiv (by omega) dX1_scoreOf_58 ?_
      refine R_aload_n dX1_scoreOf_59 rfl ?_
      refine R_getIs 35 fX1_scoreOf_81 rfl rfl dX1_scoreOf_60 ?_
      refine R_imul dX1_scoreOf_63 ?_
      refine R_iret rfl dX1_scoreOf_64 ?_
      exact hQ _ ζ3 (by unfold scM; rw [sc_0 (by omega), ← hc3, ← hu3]) hK3
    · refine R_iload_n dX1_scoreOf_15 rfl ?_
      refine R_tabIn (tgt := 65) (by decide) dX1_scoreOf_16 (by decide) (off := 49) rfl (by decide) ?_
      refine R_aload_n dX1_scoreOf_65 rfl ?_
      refine R_callV0 (k2 := kX1_cutOf) dX1_scoreOf_66 rfl gX1_scoreOf_X1_cutOf kkX1_cutOf rfl rfl (Nat.le_of_ble_eq_true rfl) (c_X1_cutOf hI rfl (by omega) (fun r66 h66 => ?_))
      subst h66
      show R _ _ _ _ 69 _ [_] _ _ _
      refine R_iret rfl dX1_scoreOf_69 ?_
      exact hQ _ ζ3 (by unfold scM; rw [sc_1 (by omega)]; exact w1_M (by omega) (by omega) hc3 (by omega) hz3) hK3
    · refine R_iload_n dX1_scoreOf_15 rfl ?_
      refine R_tabIn (tgt := 70) (by decide) dX1_scoreOf_16 (by decide) (off := 54) rfl (by decide) ?_
      refine R_ldc 88200 dX1_scoreOf_70 cnX1_scoreOf_104 rfl ?_
      refine R_aload_n dX1_scoreOf_72 rfl ?_
      refine R_getR fX1_scoreOf_51 dX1_scoreOf_73 ?_
      refine R_aload_n dX1_scoreOf_76 rfl ?_
      refine R_getIs 34 fX1_scoreOf_78 rfl rfl dX1_scoreOf_77 ?_
      refine R_iconst dX1_scoreOf_80 ?_
      refine R_isub dX1_scoreOf_81 ?_
      refine R_iconst dX1_scoreOf_82 ?_
      refine R_idiv (by omega) dX1_scoreOf_83 ?_
      refine R_ialds (q := 10) rfl rfl (by omega) rfl dX1_scoreOf_84 ?_
      refine R_aload_n dX1_scoreOf_85 rfl ?_
      refine R_getR fX1_scoreOf_51 dX1_scoreOf_86 ?_
      refine R_aload_n dX1_scoreOf_89 rfl ?_
      refine R_getIs 34 fX1_scoreOf_78 rfl rfl dX1_scoreOf_90 ?_
      refine R_iconst dX1_scoreOf_93 ?_
      refine R_idiv (by omega) dX1_scoreOf_94 ?_
      refine R_ialds (q := 10) rfl rfl (by omega) rfl dX1_scoreOf_95 ?_
      refine R_iadd dX1_scoreOf_96 ?_
      refine R_imul dX1_scoreOf_97 ?_
      refine R_iret rfl dX1_scoreOf_98 ?_
      exact hQ _ ζ3 (by unfold scM; rw [sc_2 (by omega), ← hc3, hz3 _ (by omega) (by omega), hz3 _ (by omega) (by omega)]) hK3
    · refine R_iload_n dX1_scoreOf_15 rfl ?_
      refine R_tabIn (tgt := 99) (by decide) dX1_scoreOf_16 (by decide) (off := 83) rfl (by decide) ?_
      refine R_aload_n dX1_scoreOf_99 rfl ?_
      refine R_iload_n dX1_scoreOf_100 rfl ?_
      refine R_iload_n dX1_scoreOf_101 rfl ?_
      refine R_callV2 (k2 := kX1_yesOf) dX1_scoreOf_102 rfl gX1_scoreOf_X1_yesOf kkX1_yesOf rfl rfl (Nat.le_of_ble_eq_true rfl) (c_X1_yesOf hI (by omega) (by omega) (by omega) (fun r102 h102 => ?_))
      subst h102
      show R _ _ _ _ 105 _ [_] _ _ _
      refine R_iret rfl dX1_scoreOf_105 ?_
      exact hQ _ ζ3 (by unfold scM; rw [sc_3 (by omega), ← hc3]) hK3
    · refine R_iload_n dX1_scoreOf_15 rfl ?_
      refine R_tabIn (tgt := 106) (by decide) dX1_scoreOf_16 (by decide) (off := 90) rfl (by decide) ?_
      refine R_aload_n dX1_scoreOf_106 rfl ?_
      refine R_iload_n dX1_scoreOf_107 rfl ?_
      refine R_iload_n dX1_scoreOf_108 rfl ?_
      refine R_callV2 (k2 := kX1_pairsOf) dX1_scoreOf_109 rfl gX1_scoreOf_X1_pairsOf kkX1_pairsOf rfl rfl (Nat.le_of_ble_eq_true rfl) (c_X1_pairsOf hI (by omega) (by omega) (fun r109 h109 => ?_))
      subst h109
      show R _ _ _ _ 112 _ [_] _ _ _
      refine R_iret rfl dX1_scoreOf_112 ?_
      exact hQ _ ζ3 (by unfold scM; rw [sc_4 (by omega)]) hK3
    · refine R_iload_n dX1_scoreOf_15 rfl ?_
      refine R_tabOut (tgt := 113) (by decide) dX1_scoreOf_16 (by decide) (by decide) ?_
      refine R_aload_n dX1_scoreOf_113 rfl ?_
      refine R_callV0 (k2 := kX1_pulledOf) dX1_scoreOf_114 rfl gX1_scoreOf_X1_pulledOf kkX1_pulledOf rfl rfl (Nat.le_of_ble_eq_true rfl) (c_X1_pulledOf hI (by omega) (by omega) hz (fun r114 h114 => ?_))
      subst h114
      show R _ _ _ _ 117 _ [_] _ _ _
      refine R_iret rfl dX1_scoreOf_117 ?_
      exact hQ _ ζ3 (by unfold scM; rw [sc_5 (by omega)]; exact w5_M (by omega) hc3 hu3 hz3) hK3
  · refine R_iconst dX1_scoreOf_13 ?_
    refine R_iret rfl dX1_scoreOf_14 ?_
    exact hQ _ ζ3 (by unfold scM; rw [sc_n (by omega)]) hK3

set_option maxHeartbeats 4000000 in
set_option maxRecDepth 100000 in
theorem c_X1_placeOf {E : Ev} {d : Nat} {τ ζ : Sf} {Q : Option Value → Sf → Sf → Prop} {r w p : Int} (hI : InvM τ) (hr : 0 ≤ r ∧ r < 3) (hw : 0 ≤ w ∧ w ≤ 5) (hp : 0 ≤ p ∧ p < τ 20 0) (hQ : ∀ (z : Int) (ζ' : Sf), z = plc (scM τ r w) (τ 20 0) p → (∀ k : Nat, 36 ≤ k → ζ' k = ζ k) → Q (some (.int (zI z))) τ ζ') : C E GM kX1_placeOf (d + 4) [.ref (eAd E 0), .int (zI r), .int (zI w), .int (zI p)] τ ζ Q := by
  refine C_of (by decide) rfl rfl ?_
  show R E GM kX1_placeOf (d + 4) 0 [some (.ref (eAd E 0)), some (.int (zI r)), some (.int (zI w)), some (.int (zI p)), none, none, none] [] τ ζ Q
  obtain ⟨hn, hm, hmk, hys, hpu, hcu, hpl, hwe, hpr, hmi, hwo, hco, hch, hhp⟩ := id hI
  have hsp := scM_bd (r := r) (w := w) (p := p) hI hw
  have loop : ∀ (N : Nat) (q s : Int) (ζ' : Sf), (τ 20 0 - q).toNat = N → 0 ≤ q → q ≤ τ 20 0 → s + sm (fun q => if scM τ r w p < scM τ r w q then 1 else 0) q (τ 20 0) = plc (scM τ r w) (τ 20 0) p → (∀ k : Nat, 36 ≤ k → ζ' k = ζ k) → R E GM kX1_placeOf (d + 4) 15 [some (.ref (eAd E 0)), some (.int (zI r)), some (.int (zI w)), some (.int (zI p)), some (.int (zI ((scM τ r w p)))), some (.int (zI s)), some (.int (zI q))] [] τ ζ' Q := by
    refine st_ind (fun N ih => ?_)
    intro q s ζ' hN hq hq2 hs hK
    have hsq := scM_bd (r := r) (w := w) (p := q) hI hw
    refine R_iload dX1_placeOf_15 rfl ?_
    refine R_aload_n dX1_placeOf_17 rfl ?_
    refine R_getI 20 fX1_placeOf_7 rfl rfl dX1_placeOf_18 ?_
    refine R_icmp_ge (tgt := 59) (by omega) dX1_placeOf_21 (by decide) (fun c21 => ?_) (fun c21 => ?_)
    · refine R_iload dX1_placeOf_59 rfl ?_
      refine R_iret rfl dX1_placeOf_61 ?_
      rw [sm_ge (by omega)] at hs
      exact hQ _ _ (by omega) hK
    · refine R_iload dX1_placeOf_24 rfl ?_
      refine R_iload dX1_placeOf_26 rfl ?_
      refine R_iload_n dX1_placeOf_28 rfl ?_
      refine R_icmp_eq (tgt := 49) (by omega) dX1_placeOf_29 (by decide) (fun c29 => ?_) (fun c29 => ?_)
      · refine R_iconst dX1_placeOf_49 ?_
        refine R_iadd dX1_placeOf_50 ?_
        refine R_istore dX1_placeOf_51 rfl rfl ?_
        refine R_iinc dX1_placeOf_53 rfl rfl rfl ?_
        refine R_goto (tgt := 15) dX1_placeOf_56 (by decide) ?_
        rw [sm_lt (by omega)] at hs
        first
        | (rw [if_pos (show scM τ r w p < scM τ r w q by omega)] at hs
           exact ih _ (by omega) (q + 1) _ _ rfl (by omega) (by omega) (by omega) (fun k hk => (hK37 k hk).trans (hK k hk)))
        | (rw [if_neg (show ¬ scM τ r w p < scM τ r w q by omega)] at hs
           exact ih _ (by omega) (q + 1) _ _ rfl (by omega) (by omega) (by omega) (fun k hk => (hK37 k hk).trans (hK k hk)))
        | (have e : q = p := by omega
           subst e
           rw [if_neg (show ¬ scM τ r w q < scM τ r w q by omega)] at hs
           exact ih _ (by omega) (q + 1) _ _ rfl (by omega) (by omega) (by omega) hK)
      · refine R_aload_n dX1_placeOf_32 rfl ?_
        refine R_iload_n dX1_placeOf_33 rfl ?_
        refine R_iload_n dX1_placeOf_34 rfl ?_
        refine R_iload dX1_placeOf_35 rfl ?_
        refine R_callV3 (k2 := kX1_scoreOf) dX1_placeOf_37 rfl gX1_placeOf_X1_scoreOf kkX1_scoreOf rfl rfl (Nat.le_of_ble_eq_true rfl) (c_X1_scoreOf hI (by omega) (by omega) (by omega) (fun s37 ζ37 h37 hK37 => ?_))
        show R _ _ _ _ 40 _ [_, _] _ _ _
        subst h37
        refine R_iload dX1_placeOf_40 rfl ?_
        refine R_icmp_le (tgt := 49) (by omega) dX1_placeOf_42 (by decide) (fun c42 => ?_) (fun c42 => ?_)
        · refine R_iconst dX1_placeOf_49 ?_
          refine R_iadd dX1_placeOf_50 ?_
          refine R_istore dX1_placeOf_51 rfl rfl ?_
          refine R_iinc dX1_placeOf_53 rfl rfl rfl ?_
          refine R_goto (tgt := 15) dX1_placeOf_56 (by decide) ?_
          rw [sm_lt (by omega)] at hs
          first
          | (rw [if_pos (show scM τ r w p < scM τ r w q by omega)] at hs
             exact ih _ (by omega) (q + 1) _ _ rfl (by omega) (by omega) (by omega) (fun k hk => (hK37 k hk).trans (hK k hk)))
          | (rw [if_neg (show ¬ scM τ r w p < scM τ r w q by omega)] at hs
             exact ih _ (by omega) (q + 1) _ _ rfl (by omega) (by omega) (by omega) (fun k hk => (hK37 k hk).trans (hK k hk)))
          | (have e : q = p := by omega
             subst e
             rw [if_neg (show ¬ scM τ r w q < scM τ r w q by omega)] at hs
             exact ih _ (by omega) (q + 1) _ _ rfl (by omega) (by omega) (by omega) hK)
        · refine R_iconst dX1_placeOf_45 ?_
          refine R_goto (tgt := 50) dX1_placeOf_46 (by decide) ?_
          refine R_iadd dX1_placeOf_50 ?_
          refine R_istore dX1_placeOf_51 rfl rfl ?_
          refine R_iinc dX1_placeOf_53 rfl rfl rfl ?_
          refine R_goto (tgt := 15) dX1_placeOf_56 (by decide) ?_
          rw [sm_lt (by omega)] at hs
          first
          | (rw [if_pos (show scM τ r w p < scM τ r w q by omega)] at hs
             exact ih _ (by omega) (q + 1) _ _ rfl (by omega) (by omega) (by omega) (fun k hk => (hK37 k hk).trans (hK k hk)))
          | (rw [if_neg (show ¬ scM τ r w p < scM τ r w q by omega)] at hs
             exact ih _ (by omega) (q + 1) _ _ rfl (by omega) (by omega) (by omega) (fun k hk => (hK37 k hk).trans (hK k hk)))
          | (have e : q = p := by omega
             subst e
             rw [if_neg (show ¬ scM τ r w q < scM τ r w q by omega)] at hs
             exact ih _ (by omega) (q + 1) _ _ rfl (by omega) (by omega) (by omega) hK)
  refine R_aload_n dX1_placeOf_0 rfl ?_
  refine R_iload_n dX1_placeOf_1 rfl ?_
  refine R_iload_n dX1_placeOf_2 rfl ?_
  refine R_iload_n dX1_placeOf_3 rfl ?_
  refine R_callV3 (k2 := kX1_scoreOf) dX1_placeOf_4 rfl gX1_placeOf_X1_scoreOf kkX1_scoreOf rfl rfl (Nat.le_of_ble_eq_true rfl) (c_X1_scoreOf hI (by omega) (by omega) (by omega) (fun s4 ζ4 h4 hK4 => ?_))
  show R _ _ _ _ 7 _ [_] _ _ _
  subst h4
  refine R_istore dX1_placeOf_7 rfl rfl ?_
  refine R_iconst dX1_placeOf_9 ?_
  refine R_istore dX1_placeOf_10 rfl rfl ?_
  refine R_iconst dX1_placeOf_12 ?_
  refine R_istore dX1_placeOf_13 rfl rfl ?_
  exact loop _ 0 1 ζ4 rfl (by omega) (by omega) rfl hK4

set_option maxHeartbeats 4000000 in
set_option maxRecDepth 100000 in
theorem c_X1_passes {E : Ev} {d : Nat} {τ ζ : Sf} {Q : Option Value → Sf → Sf → Prop} {r w p k : Int} (hI : InvM τ) (hr : 0 ≤ r ∧ r < 3) (hw : 0 ≤ w ∧ w ≤ 5) (hp : 0 ≤ p ∧ p < τ 20 0) (hk : 0 ≤ k ∧ k ≤ 100) (h1 : ∀ ζ' : Sf, psb (scM τ r w) (τ 20 0) k p = 1 → (∀ k : Nat, 36 ≤ k → ζ' k = ζ k) → Q (some (.int (zI 1))) τ ζ') (h0 : ∀ ζ' : Sf, psb (scM τ r w) (τ 20 0) k p = 0 → (∀ k : Nat, 36 ≤ k → ζ' k = ζ k) → Q (some (.int (zI 0))) τ ζ') : C E GM kX1_passes (d + 5) [.ref (eAd E 0), .int (zI r), .int (zI w), .int (zI p), .int (zI k)] τ ζ Q := by
  refine C_of (by decide) rfl rfl ?_
  show R E GM kX1_passes (d + 5) 0 [some (.ref (eAd E 0)), some (.int (zI r)), some (.int (zI w)), some (.int (zI p)), some (.int (zI k))] [] τ ζ Q
  obtain ⟨hn, hm, hmk, hys, hpu, hcu, hpl, hwe, hpr, hmi, hwo, hco, hch, hhp⟩ := id hI
  have hsp := scM_bd (r := r) (w := w) (p := p) hI hw
  have hpb := plc_bd (f := scM τ r w) (n := τ 20 0) (p := p) (by omega)
  refine R_aload_n dX1_passes_0 rfl ?_
  refine R_iload_n dX1_passes_1 rfl ?_
  refine R_iload_n dX1_passes_2 rfl ?_
  refine R_callV2 (k2 := kX1_hasMark) dX1_passes_3 rfl gX1_passes_X1_hasMark kkX1_hasMark rfl rfl (Nat.le_of_ble_eq_true rfl) (c_X1_hasMark hI (by omega) (by omega) (fun b3 => ?_) (fun b3 => ?_))
  · show R _ _ _ _ 6 _ [_] _ _ _
    refine R_if_eq (tgt := 25) (by decide) dX1_passes_6 (by decide) (fun h => absurd h (by decide)) (fun _ => ?_)
    refine R_aload_n dX1_passes_9 rfl ?_
    refine R_iload_n dX1_passes_10 rfl ?_
    refine R_iload_n dX1_passes_11 rfl ?_
    refine R_iload_n dX1_passes_12 rfl ?_
    refine R_callV3 (k2 := kX1_placeOf) dX1_passes_13 rfl gX1_passes_X1_placeOf kkX1_placeOf rfl rfl (Nat.le_of_ble_eq_true rfl) (c_X1_placeOf hI (by omega) (by omega) (by omega) (fun r13 ζ13 h13 hK13 => ?_))
    subst h13
    show R _ _ _ _ 16 _ [_] _ _ _
    refine R_iload dX1_passes_16 rfl ?_
    refine R_icmp_gt (tgt := 25) (by omega) dX1_passes_18 (by decide) (fun c18 => ?_) (fun c18 => ?_)
    · refine R_iconst dX1_passes_25 ?_
      refine R_zret rfl (by decide) dX1_passes_26 ?_
      first
      | exact h0 _ (by unfold psb; rw [if_neg (by omega)]) hK13
      | exact h0 _ (by unfold psb; rw [if_neg (by omega)]) (fun k _ => rfl)
    · refine R_iconst dX1_passes_21 ?_
      refine R_goto (tgt := 26) dX1_passes_22 (by decide) ?_
      refine R_zret rfl (by decide) dX1_passes_26 ?_
      exact h1 _ (by unfold psb; rw [if_pos (by omega)]) hK13
  · show R _ _ _ _ 6 _ [_] _ _ _
    refine R_if_eq (tgt := 25) (by decide) dX1_passes_6 (by decide) (fun _ => ?_) (fun h => absurd h (by decide))
    refine R_iconst dX1_passes_25 ?_
    refine R_zret rfl (by decide) dX1_passes_26 ?_
    first
    | exact h0 _ (by unfold psb; rw [if_neg (by omega)]) hK13
    | exact h0 _ (by unfold psb; rw [if_neg (by omega)]) (fun k _ => rfl)

theorem zI_or0 {x : Int} (h : 0 ≤ x) : zI x ||| zI 0 = zI x := by
  obtain ⟨n, rfl⟩ : ∃ n : Nat, x = n := ⟨x.toNat, by omega⟩
  rw [show (0 : Int) = ((0 : Nat) : Int) from rfl, zI_or, Nat.or_zero]
set_option maxHeartbeats 4000000 in
set_option maxRecDepth 100000 in
theorem c_X1_passedOf {E : Ev} {d : Nat} {τ ζ : Sf} {Q : Option Value → Sf → Sf → Prop} {r w k : Int} (hI : InvM τ) (hr : 0 ≤ r ∧ r < 3) (hw : 0 ≤ w ∧ w ≤ 5) (hk : 0 ≤ k ∧ k ≤ 100) (hQ : ∀ (z : Int) (ζ' : Sf), z = bsm (psb (scM τ r w) (τ 20 0) k) (τ 20 0) → Q (some (.int (zI z))) τ ζ') : C E GM kX1_passedOf (d + 6) [.ref (eAd E 0), .int (zI r), .int (zI w), .int (zI k)] τ ζ Q := by
  refine C_of (by decide) rfl rfl ?_
  show R E GM kX1_passedOf (d + 6) 0 [some (.ref (eAd E 0)), some (.int (zI r)), some (.int (zI w)), some (.int (zI k)), none, none] [] τ ζ Q
  obtain ⟨hn, hm, hmk, hys, hpu, hcu, hpl, hwe, hpr, hmi, hwo, hco, hch, hhp⟩ := id hI
  have loop : ∀ (N : Nat) (p s : Int) (ζ' : Sf), (τ 20 0 - p).toNat = N → 0 ≤ p → p ≤ τ 20 0 → s = bsm (psb (scM τ r w) (τ 20 0) k) p → R E GM kX1_passedOf (d + 6) 6 [some (.ref (eAd E 0)), some (.int (zI r)), some (.int (zI w)), some (.int (zI k)), some (.int (zI s)), some (.int (zI p))] [] τ ζ' Q := by
    refine st_ind (fun N ih => ?_)
    intro p s ζ' hN hx hx2 hs
    have hbb := bsm_bd' (psb_01 (scM τ r w) (τ 20 0) k) hx
    rw [← hs] at hbb
    have hS := bsm_S (b := (psb (scM τ r w) (τ 20 0) k)) hx
    refine R_iload dX1_passedOf_6 rfl ?_
    refine R_aload_n dX1_passedOf_8 rfl ?_
    refine R_getI 20 fX1_passedOf_7 rfl rfl dX1_passedOf_9 ?_
    refine R_icmp_ge (tgt := 46) (by omega) dX1_passedOf_12 (by decide) (fun c12 => ?_) (fun c12 => ?_)
    · refine R_iload dX1_passedOf_46 rfl ?_
      refine R_iret rfl dX1_passedOf_48 ?_
      have e : p = τ 20 0 := by omega
      subst e
      exact hQ _ _ hs
    · refine R_iload dX1_passedOf_15 rfl ?_
      refine R_aload_n dX1_passedOf_17 rfl ?_
      refine R_iload_n dX1_passedOf_18 rfl ?_
      refine R_iload_n dX1_passedOf_19 rfl ?_
      refine R_iload dX1_passedOf_20 rfl ?_
      refine R_iload_n dX1_passedOf_22 rfl ?_
      refine R_callV4 (k2 := kX1_passes) dX1_passedOf_23 rfl gX1_passedOf_X1_passes kkX1_passes rfl rfl (Nat.le_of_ble_eq_true rfl) (c_X1_passes hI (by omega) (by omega) (by omega) (by omega) (fun ζ23 b23 hK23 => ?_) (fun ζ23 b23 hK23 => ?_))
      · show R _ _ _ _ 26 _ [_, _] _ _ _
        refine R_if_eq (tgt := 36) (by decide) dX1_passedOf_26 (by decide) (fun h => absurd h (by decide)) (fun _ => ?_)
        refine R_iconst dX1_passedOf_29 ?_
        refine R_iload dX1_passedOf_30 rfl ?_
        refine R_ishl (p2 p) (zI_shl1 (by omega)) dX1_passedOf_32 ?_
        refine R_goto (tgt := 37) dX1_passedOf_33 (by decide) ?_
        refine R_ior _ (by first | exact zI_or0 (by omega) | exact zI_or2 hbb hx) dX1_passedOf_37 ?_
        refine R_istore dX1_passedOf_38 rfl rfl ?_
        refine R_iinc dX1_passedOf_40 rfl rfl rfl ?_
        refine R_goto (tgt := 6) dX1_passedOf_43 (by decide) ?_
        refine ih (τ 20 0 - (p + 1)).toNat (by omega) (p + 1) _ _ rfl (by omega) (by omega) ?_
        rw [hS, b23]
        omega
      · show R _ _ _ _ 26 _ [_, _] _ _ _
        refine R_if_eq (tgt := 36) (by decide) dX1_passedOf_26 (by decide) (fun _ => ?_) (fun h => absurd h (by decide))
        refine R_iconst dX1_passedOf_36 ?_
        refine R_ior _ (by first | exact zI_or0 (by omega) | exact zI_or2 hbb hx) dX1_passedOf_37 ?_
        refine R_istore dX1_passedOf_38 rfl rfl ?_
        refine R_iinc dX1_passedOf_40 rfl rfl rfl ?_
        refine R_goto (tgt := 6) dX1_passedOf_43 (by decide) ?_
        refine ih (τ 20 0 - (p + 1)).toNat (by omega) (p + 1) _ _ rfl (by omega) (by omega) ?_
        rw [hS, b23]
        omega
  refine R_iconst dX1_passedOf_0 ?_
  refine R_istore dX1_passedOf_1 rfl rfl ?_
  refine R_iconst dX1_passedOf_3 ?_
  refine R_istore dX1_passedOf_4 rfl rfl ?_
  exact loop _ 0 0 ζ rfl (by omega) (by omega) (sm_ge (by omega)).symm

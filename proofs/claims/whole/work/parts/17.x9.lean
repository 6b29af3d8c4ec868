/-- the plan, if there is one -/
def plX (τ : Sf) (lo hi ti : Int) : Option (Int → Int) := srF (fun x => fit (τ 7) lo hi (τ 8 x)) (τ 9) (τ 20 0).toNat 0 (if ti < 3 then 4095 else 0) (if ti < 2 then 4095 else 0) 0
def fplan (τ : Sf) (lo hi ti : Int) : Int := if lo < 0 ∨ 720 < lo ∨ hi < lo ∨ 720 < hi ∨ ti < 1 ∨ 3 < ti then -102 else match plX τ lo hi ti with
  | some _ => 1
  | none => 0
def tplan (τ : Sf) (lo hi ti : Int) : Sf := if lo < 0 ∨ 720 < lo ∨ hi < lo ∨ 720 < hi ∨ ti < 1 ∨ 3 < ti then τ else match plX τ lo hi ti with
  | some g => setc (fil τ 10 0 10 (-1)) 0 (τ 20 0) g
  | none => fil τ 10 0 10 (-1)
theorem c_X0_choosesFrom21 {E : Ev} {d : Nat} {F : Int → Int} {τ ζ : Sf} (hI : InvX τ) (hF : ∀ p i : Int, 0 ≤ p → p < τ 20 0 → 0 ≤ i → i < τ 9 p → ζ 14 (p * 3 + i) = F (p * 3 + i)) (hF2 : ∀ x, 0 ≤ F x ∧ F x ≤ 4095) (k : Nat) (p o t h : Int) (Q : Option Value → Sf → Sf → Prop) (hk : (τ 20 0 - p).toNat = k) (hp : 0 ≤ p) (hp2 : p ≤ τ 20 0) (hms : (0 ≤ o ∧ o ≤ 4095) ∧ (0 ≤ t ∧ t ≤ 4095) ∧ (0 ≤ h ∧ h ≤ 4095)) (h1 : ∀ g : Int → Int, srF F (τ 9) k p o t h = some g → Q (some (.int (zI 1))) (setc τ p (τ 20 0) g) ζ) (h0 : srF F (τ 9) k p o t h = none → Q (some (.int (zI 0))) τ ζ) : C E GX kX0_choosesFrom (d + 21) [.ref (eAd E 0), .int (zI p), .int (zI o), .int (zI t), .int (zI h)] τ ζ Q := by
  have hn := hI.1
  rw [show d + 21 = d + (21 - 2 * k) + 2 * k by omega]
  exact c_X0_choosesFrom hI hF hF2 k p o t h Q hk hp hp2 hms h1 h0
theorem fil_inv {τ : Sf} (hI : InvX τ) : InvX (fil τ 10 0 10 (-1)) := by
  obtain ⟨hn, hm, hmk, hys, hpu, hcu, hpl, hwe, hpr, hmi, hwo, hco, hch⟩ := id hI
  refine ⟨hn, hm, hmk, hys, hpu, hcu, hpl, hwe, hpr, hmi, hwo, hco, fun i => ?_⟩
  have := hch i
  show -1 ≤ (if 0 ≤ i ∧ i < 10 then -1 else τ 10 i) ∧ (if 0 ≤ i ∧ i < 10 then -1 else τ 10 i) ≤ 2
  split <;> omega

set_option maxHeartbeats 4000000 in
set_option maxRecDepth 100000 in
theorem c_X0_plan {E : Ev} {d : Nat} {τ ζ : Sf} {Q : Option Value → Sf → Sf → Prop} {lo hi ti : Int} (hI : InvX τ) (hrg : (-2147483648 ≤ lo ∧ lo < 2147483648) ∧ (-2147483648 ≤ hi ∧ hi < 2147483648) ∧ (-2147483648 ≤ ti ∧ ti < 2147483648)) (hQ : ∀ (z : Int) (τ' ζ' : Sf), z = fplan τ lo hi ti → τ' = tplan τ lo hi ti → Q (some (.int (zI z))) τ' ζ') : C E GX kX0_plan (d + 22) [.ref (eAd E 0), .int (zI lo), .int (zI hi), .int (zI ti)] τ ζ Q := by
  refine C_of (by decide) rfl rfl ?_
  show R E GX kX0_plan (d + 22) 0 [some (.ref (eAd E 0)), some (.int (zI lo)), some (.int (zI hi)), some (.int (zI ti)), none, none] [] τ ζ Q
  obtain ⟨hn, hm, hmk, hys, hpu, hcu, hpl, hwe, hpr, hmi, hwo, hco, hch⟩ := id hI
  refine R_iload_n dX0_plan_0 rfl ?_
  refine R_iconst dX0_plan_1 ?_
  refine R_sipush dX0_plan_2 (by decide) ?_
  refine R_callS3 (k2 := kX0_isWithin) dX0_plan_5 rfl gX0_plan_X0_isWithin kkX0_isWithin (Nat.le_of_ble_eq_true rfl) (c_X0_isWithin (by omega) (fun b5 => ?_) (fun b5 => ?_))
  · show R _ _ _ _ 8 _ [_] _ _ _
    refine R_if_eq (tgt := 31) (by decide) dX0_plan_8 (by decide) (fun h => absurd h (by decide)) (fun _ => ?_)
    refine R_iload_n dX0_plan_11 rfl ?_
    refine R_iload_n dX0_plan_12 rfl ?_
    refine R_sipush dX0_plan_13 (by decide) ?_
    refine R_callS3 (k2 := kX0_isWithin) dX0_plan_16 rfl gX0_plan_X0_isWithin kkX0_isWithin (Nat.le_of_ble_eq_true rfl) (c_X0_isWithin (by omega) (fun b16 => ?_) (fun b16 => ?_))
    · show R _ _ _ _ 19 _ [_] _ _ _
      refine R_if_eq (tgt := 31) (by decide) dX0_plan_19 (by decide) (fun h => absurd h (by decide)) (fun _ => ?_)
      refine R_iload_n dX0_plan_22 rfl ?_
      refine R_iconst dX0_plan_23 ?_
      refine R_iconst dX0_plan_24 ?_
      refine R_callS3 (k2 := kX0_isWithin) dX0_plan_25 rfl gX0_plan_X0_isWithin kkX0_isWithin (Nat.le_of_ble_eq_true rfl) (c_X0_isWithin (by omega) (fun b25 => ?_) (fun b25 => ?_))
      · show R _ _ _ _ 28 _ [_] _ _ _
        refine R_if_ne (tgt := 34) (by decide) dX0_plan_28 (by decide) (fun _ => ?_) (fun h => absurd h (by decide))
        refine R_aload_n dX0_plan_34 rfl ?_
        refine R_getR fX0_plan_44 dX0_plan_35 ?_
        refine R_iconst dX0_plan_38 ?_
        refine R_callS2 (k2 := kJ7_fill_53178) dX0_plan_39 rfl gX0_plan_J7_fill_53178 kkJ7_fill_53178 (Nat.le_of_ble_eq_true rfl) (c_J7_fill_53178 rfl rfl rfl ?_)
        show R _ _ _ _ 42 _ [] _ _ _
        refine R_aload_n dX0_plan_42 rfl ?_
        refine R_iload_n dX0_plan_43 rfl ?_
        refine R_iload_n dX0_plan_44 rfl ?_
        refine R_callV2 (k2 := kX0_fillFitting) dX0_plan_45 rfl gX0_plan_X0_fillFitting kkX0_fillFitting rfl rfl (Nat.le_of_ble_eq_true rfl) (c_X0_fillFitting (fil_inv hI) (by omega) (by omega) (fun ζ1 hz1 => ?_))
        show R _ _ _ _ 48 _ [] _ _ _
        refine R_iload_n dX0_plan_48 rfl ?_
        refine R_iconst dX0_plan_49 ?_
        refine R_icmp_ge (tgt := 59) (by omega) dX0_plan_50 (by decide) (fun c50 => ?_) (fun c50 => ?_)
        · refine R_iconst dX0_plan_59 ?_
          refine R_istore dX0_plan_60 rfl rfl ?_
          refine R_iload_n dX0_plan_62 rfl ?_
          refine R_iconst dX0_plan_63 ?_
          refine R_icmp_ge (tgt := 73) (by omega) dX0_plan_64 (by decide) (fun c64 => ?_) (fun c64 => ?_)
          · refine R_iconst dX0_plan_73 ?_
            refine R_istore dX0_plan_74 rfl rfl ?_
            refine R_aload_n dX0_plan_76 rfl ?_
            refine R_iconst dX0_plan_77 ?_
            refine R_iload dX0_plan_78 rfl ?_
            refine R_iload dX0_plan_80 rfl ?_
            refine R_iconst dX0_plan_82 ?_
            refine R_callV4 (k2 := kX0_choosesFrom) dX0_plan_83 rfl gX0_plan_X0_choosesFrom kkX0_choosesFrom rfl rfl (Nat.le_of_ble_eq_true rfl) (c_X0_choosesFrom21 (d := d) (F := fun x => fit (τ 7) lo hi (τ 8 x)) (fil_inv hI) hz1 (fun x => fit_bd (hwo x)) (τ 20 0).toNat 0 _ _ _ _ (by show (τ 20 0 - 0).toNat = _; rw [Int.sub_zero]) (by omega) (by show 0 ≤ τ 20 0; omega) (by omega) (fun g b83 => ?_) (fun b83 => ?_))
            · show R _ _ _ _ 86 _ [_] _ _ _
              refine R_if_eq (tgt := 93) (by decide) dX0_plan_86 (by decide) (fun h => absurd h (by decide)) (fun _ => ?_)
              refine R_iconst dX0_plan_89 ?_
              refine R_goto (tgt := 94) dX0_plan_90 (by decide) ?_
              refine R_iret rfl dX0_plan_94 ?_
              have hpl2 : plX τ lo hi ti = some g := by
                unfold plX
                first
                | (exfalso; omega)
                | (rw [if_pos (show ti < 3 by omega), if_pos (show ti < 2 by omega)]
                   exact b83)
                | (rw [if_pos (show ti < 3 by omega), if_neg (show ¬ ti < 2 by omega)]
                   exact b83)
                | (rw [if_neg (show ¬ ti < 3 by omega), if_neg (show ¬ ti < 2 by omega)]
                   exact b83)
              exact hQ _ _ _ (by unfold fplan; rw [if_neg (by omega), hpl2]) (by unfold tplan; rw [if_neg (by omega), hpl2] <;> rfl)
            · show R _ _ _ _ 86 _ [_] _ _ _
              refine R_if_eq (tgt := 93) (by decide) dX0_plan_86 (by decide) (fun _ => ?_) (fun h => absurd h (by decide))
              refine R_iconst dX0_plan_93 ?_
              refine R_iret rfl dX0_plan_94 ?_
              have hpl2 : plX τ lo hi ti = none := by
                unfold plX
                first
                | (exfalso; omega)
                | (rw [if_pos (show ti < 3 by omega), if_pos (show ti < 2 by omega)]
                   exact b83)
                | (rw [if_pos (show ti < 3 by omega), if_neg (show ¬ ti < 2 by omega)]
                   exact b83)
                | (rw [if_neg (show ¬ ti < 3 by omega), if_neg (show ¬ ti < 2 by omega)]
                   exact b83)
              exact hQ _ _ _ (by unfold fplan; rw [if_neg (by omega), hpl2]) (by unfold tplan; rw [if_neg (by omega), hpl2] <;> rfl)
          · refine R_sipush dX0_plan_67 (by decide) ?_
            refine R_goto (tgt := 74) dX0_plan_70 (by decide) ?_
            refine R_istore dX0_plan_74 rfl rfl ?_
            refine R_aload_n dX0_plan_76 rfl ?_
            refine R_iconst dX0_plan_77 ?_
            refine R_iload dX0_plan_78 rfl ?_
            refine R_iload dX0_plan_80 rfl ?_
            refine R_iconst dX0_plan_82 ?_
            refine R_callV4 (k2 := kX0_choosesFrom) dX0_plan_83 rfl gX0_plan_X0_choosesFrom kkX0_choosesFrom rfl rfl (Nat.le_of_ble_eq_true rfl) (c_X0_choosesFrom21 (d := d) (F := fun x => fit (τ 7) lo hi (τ 8 x)) (fil_inv hI) hz1 (fun x => fit_bd (hwo x)) (τ 20 0).toNat 0 _ _ _ _ (by show (τ 20 0 - 0).toNat = _; rw [Int.sub_zero]) (by omega) (by show 0 ≤ τ 20 0; omega) (by omega) (fun g b83 => ?_) (fun b83 => ?_))
            · show R _ _ _ _ 86 _ [_] _ _ _
              refine R_if_eq (tgt := 93) (by decide) dX0_plan_86 (by decide) (fun h => absurd h (by decide)) (fun _ => ?_)
              refine R_iconst dX0_plan_89 ?_
              refine R_goto (tgt := 94) dX0_plan_90 (by decide) ?_
              refine R_iret rfl dX0_plan_94 ?_
              have hpl2 : plX τ lo hi ti = some g := by
                unfold plX
                first
                | (exfalso; omega)
                | (rw [if_pos (show ti < 3 by omega), if_pos (show ti < 2 by omega)]
                   exact b83)
                | (rw [if_pos (show ti < 3 by omega), if_neg (show ¬ ti < 2 by omega)]
                   exact b83)
                | (rw [if_neg (show ¬ ti < 3 by omega), if_neg (show ¬ ti < 2 by omega)]
                   exact b83)
              exact hQ _ _ _ (by unfold fplan; rw [if_neg (by omega), hpl2]) (by unfold tplan; rw [if_neg (by omega), hpl2] <;> rfl)
            · show R _ _ _ _ 86 _ [_] _ _ _
              refine R_if_eq (tgt := 93) (by decide) dX0_plan_86 (by decide) (fun _ => ?_) (fun h => absurd h (by decide))
              refine R_iconst dX0_plan_93 ?_
              refine R_iret rfl dX0_plan_94 ?_
              have hpl2 : plX τ lo hi ti = none := by
                unfold plX
                first
                | (exfalso; omega)
                | (rw [if_pos (show ti < 3 by omega), if_pos (show ti < 2 by omega)]
                   exact b83)
                | (rw [if_pos (show ti < 3 by omega), if_neg (show ¬ ti < 2 by omega)]
                   exact b83)
                | (rw [if_neg (show ¬ ti < 3 by omega), if_neg (show ¬ ti < 2 by omega)]
                   exact b83)
              exact hQ _ _ _ (by unfold fplan; rw [if_neg (by omega), hpl2]) (by unfold tplan; rw [if_neg (by omega), hpl2] <;> rfl)
        · refine R_sipush dX0_plan_53 (by decide) ?_
          refine R_goto (tgt := 60) dX0_plan_56 (by decide) ?_
          refine R_istore dX0_plan_60 rfl rfl ?_
          refine R_iload_n dX0_plan_62 rfl ?_
          refine R_iconst dX0_plan_63 ?_
          refine R_icmp_ge (tgt := 73) (by omega) dX0_plan_64 (by decide) (fun c64 => ?_) (fun c64 => ?_)
          · refine R_iconst dX0_plan_73 ?_
            refine R_istore dX0_plan_74 rfl rfl ?_
            refine R_aload_n dX0_plan_76 rfl ?_
            refine R_iconst dX0_plan_77 ?_
            refine R_iload dX0_plan_78 rfl ?_
            refine R_iload dX0_plan_80 rfl ?_
            refine R_iconst dX0_plan_82 ?_
            refine R_callV4 (k2 := kX0_choosesFrom) dX0_plan_83 rfl gX0_plan_X0_choosesFrom kkX0_choosesFrom rfl rfl (Nat.le_of_ble_eq_true rfl) (c_X0_choosesFrom21 (d := d) (F := fun x => fit (τ 7) lo hi (τ 8 x)) (fil_inv hI) hz1 (fun x => fit_bd (hwo x)) (τ 20 0).toNat 0 _ _ _ _ (by show (τ 20 0 - 0).toNat = _; rw [Int.sub_zero]) (by omega) (by show 0 ≤ τ 20 0; omega) (by omega) (fun g b83 => ?_) (fun b83 => ?_))
            · show R _ _ _ _ 86 _ [_] _ _ _
              refine R_if_eq (tgt := 93) (by decide) dX0_plan_86 (by decide) (fun h => absurd h (by decide)) (fun _ => ?_)
              refine R_iconst dX0_plan_89 ?_
              refine R_goto (tgt := 94) dX0_plan_90 (by decide) ?_
              refine R_iret rfl dX0_plan_94 ?_
              have hpl2 : plX τ lo hi ti = some g := by
                unfold plX
                first
                | (exfalso; omega)
                | (rw [if_pos (show ti < 3 by omega), if_pos (show ti < 2 by omega)]
                   exact b83)
                | (rw [if_pos (show ti < 3 by omega), if_neg (show ¬ ti < 2 by omega)]
                   exact b83)
                | (rw [if_neg (show ¬ ti < 3 by omega), if_neg (show ¬ ti < 2 by omega)]
                   exact b83)
              exact hQ _ _ _ (by unfold fplan; rw [if_neg (by omega), hpl2]) (by unfold tplan; rw [if_neg (by omega), hpl2] <;> rfl)
            · show R _ _ _ _ 86 _ [_] _ _ _
              refine R_if_eq (tgt := 93) (by decide) dX0_plan_86 (by decide) (fun _ => ?_) (fun h => absurd h (by decide))
              refine R_iconst dX0_plan_93 ?_
              refine R_iret rfl dX0_plan_94 ?_
              have hpl2 : plX τ lo hi ti = none := by
                unfold plX
                first
                | (exfalso; omega)
                | (rw [if_pos (show ti < 3 by omega), if_pos (show ti < 2 by omega)]
                   exact b83)
                | (rw [if_pos (show ti < 3 by omega), if_neg (show ¬ ti < 2 by omega)]
                   exact b83)
                | (rw [if_neg (show ¬ ti < 3 by omega), if_neg (show ¬ ti < 2 by omega)]
                   exact b83)
              exact hQ _ _ _ (by unfold fplan; rw [if_neg (by omega), hpl2]) (by unfold tplan; rw [if_neg (by omega), hpl2] <;> rfl)
          · refine R_sipush dX0_plan_67 (by decide) ?_
            refine R_goto (tgt := 74) dX0_plan_70 (by decide) ?_
            refine R_istore dX0_plan_74 rfl rfl ?_
            refine R_aload_n dX0_plan_76 rfl ?_
            refine R_iconst dX0_plan_77 ?_
            refine R_iload dX0_plan_78 rfl ?_
            refine R_iload dX0_plan_80 rfl ?_
            refine R_iconst dX0_plan_82 ?_
            refine R_callV4 (k2 := kX0_choosesFrom) dX0_plan_83 rfl gX0_plan_X0_choosesFrom kkX0_choosesFrom rfl rfl (Nat.le_of_ble_eq_true rfl) (c_X0_choosesFrom21 (d := d) (F := fun x => fit (τ 7) lo hi (τ 8 x)) (fil_inv hI) hz1 (fun x => fit_bd (hwo x)) (τ 20 0).toNat 0 _ _ _ _ (by show (τ 20 0 - 0).toNat = _; rw [Int.sub_zero]) (by omega) (by show 0 ≤ τ 20 0; omega) (by omega) (fun g b83 => ?_) (fun b83 => ?_))
            · show R _ _ _ _ 86 _ [_] _ _ _
              refine R_if_eq (tgt := 93) (by decide) dX0_plan_86 (by decide) (fun h => absurd h (by decide)) (fun _ => ?_)
              refine R_iconst dX0_plan_89 ?_
              refine R_goto (tgt := 94) dX0_plan_90 (by decide) ?_
              refine R_iret rfl dX0_plan_94 ?_
              have hpl2 : plX τ lo hi ti = some g := by
                unfold plX
                first
                | (exfalso; omega)
                | (rw [if_pos (show ti < 3 by omega), if_pos (show ti < 2 by omega)]
                   exact b83)
                | (rw [if_pos (show ti < 3 by omega), if_neg (show ¬ ti < 2 by omega)]
                   exact b83)
                | (rw [if_neg (show ¬ ti < 3 by omega), if_neg (show ¬ ti < 2 by omega)]
                   exact b83)
              exact hQ _ _ _ (by unfold fplan; rw [if_neg (by omega), hpl2]) (by unfold tplan; rw [if_neg (by omega), hpl2] <;> rfl)
            · show R _ _ _ _ 86 _ [_] _ _ _
              refine R_if_eq (tgt := 93) (by decide) dX0_plan_86 (by decide) (fun _ => ?_) (fun h => absurd h (by decide))
              refine R_iconst dX0_plan_93 ?_
              refine R_iret rfl dX0_plan_94 ?_
              have hpl2 : plX τ lo hi ti = none := by
                unfold plX
                first
                | (exfalso; omega)
                | (rw [if_pos (show ti < 3 by omega), if_pos (show ti < 2 by omega)]
                   exact b83)
                | (rw [if_pos (show ti < 3 by omega), if_neg (show ¬ ti < 2 by omega)]
                   exact b83)
                | (rw [if_neg (show ¬ ti < 3 by omega), if_neg (show ¬ ti < 2 by omega)]
                   exact b83)
              exact hQ _ _ _ (by unfold fplan; rw [if_neg (by omega), hpl2]) (by unfold tplan; rw [if_neg (by omega), hpl2] <;> rfl)
      · show R _ _ _ _ 28 _ [_] _ _ _
        refine R_if_ne (tgt := 34) (by decide) dX0_plan_28 (by decide) (fun h => absurd h (by decide)) (fun _ => ?_)
        refine R_bipush dX0_plan_31 (by decide) ?_
        refine R_iret rfl dX0_plan_33 ?_
        exact hQ _ _ _ (by unfold fplan; rw [if_pos (by omega)]) (by unfold tplan; rw [if_pos (by omega)])
    · show R _ _ _ _ 19 _ [_] _ _ _
      refine R_if_eq (tgt := 31) (by decide) dX0_plan_19 (by decide) (fun _ => ?_) (fun h => absurd h (by decide))
      refine R_bipush dX0_plan_31 (by decide) ?_
      refine R_iret rfl dX0_plan_33 ?_
      exact hQ _ _ _ (by unfold fplan; rw [if_pos (by omega)]) (by unfold tplan; rw [if_pos (by omega)])
  · show R _ _ _ _ 8 _ [_] _ _ _
    refine R_if_eq (tgt := 31) (by decide) dX0_plan_8 (by decide) (fun _ => ?_) (fun h => absurd h (by decide))
    refine R_bipush dX0_plan_31 (by decide) ?_
    refine R_iret rfl dX0_plan_33 ?_
    exact hQ _ _ _ (by unfold fplan; rw [if_pos (by omega)]) (by unfold tplan; rw [if_pos (by omega)])

def fchosen (τ : Sf) (p : Int) : Int := if p < 0 ∨ τ 20 0 ≤ p then -101 else τ 10 p
set_option maxHeartbeats 4000000 in
set_option maxRecDepth 100000 in
theorem c_X0_chosen {E : Ev} {d : Nat} {τ ζ : Sf} {Q : Option Value → Sf → Sf → Prop} {p : Int} (hI : InvX τ) (hrg : (-2147483648 ≤ p ∧ p < 2147483648)) (hQ : ∀ (z : Int) (ζ' : Sf), z = fchosen τ p → Q (some (.int (zI z))) τ ζ') : C E GX kX0_chosen (d + 2) [.ref (eAd E 0), .int (zI p)] τ ζ Q := by
  refine C_of (by decide) rfl rfl ?_
  show R E GX kX0_chosen (d + 2) 0 [some (.ref (eAd E 0)), some (.int (zI p))] [] τ ζ Q
  obtain ⟨hn, hm, hmk, hys, hpu, hcu, hpl, hwe, hpr, hmi, hwo, hco, hch⟩ := id hI
  refine R_aload_n dX0_chosen_0 rfl ?_
  refine R_iload_n dX0_chosen_1 rfl ?_
  refine R_callV1 (k2 := kX0_isPlayer) dX0_chosen_2 rfl gX0_chosen_X0_isPlayer kkX0_isPlayer rfl rfl (Nat.le_of_ble_eq_true rfl) (c_X0_isPlayer hI (by omega) (fun b2 => ?_) (fun b2 => ?_))
  · show R _ _ _ _ 5 _ [_] _ _ _
    refine R_if_ne (tgt := 11) (by decide) dX0_chosen_5 (by decide) (fun _ => ?_) (fun h => absurd h (by decide))
    refine R_aload_n dX0_chosen_11 rfl ?_
    refine R_getR fX0_chosen_44 dX0_chosen_12 ?_
    refine R_iload_n dX0_chosen_15 rfl ?_
    refine R_iald (q := 10) rfl rfl (by omega) rfl dX0_chosen_16 ?_
    refine R_iret rfl dX0_chosen_17 ?_
    exact hQ _ _ (by unfold fchosen; first | rw [if_pos (by omega)] | rw [if_neg (by omega), if_pos (by omega)] | rw [if_neg (by omega), if_neg (by omega), if_pos (by omega)] | rw [if_neg (by omega), if_neg (by omega), if_neg (by omega)] | rw [if_neg (by omega), if_neg (by omega)] | rw [if_neg (by omega)])
  · show R _ _ _ _ 5 _ [_] _ _ _
    refine R_if_ne (tgt := 11) (by decide) dX0_chosen_5 (by decide) (fun h => absurd h (by decide)) (fun _ => ?_)
    refine R_bipush dX0_chosen_8 (by decide) ?_
    refine R_iret rfl dX0_chosen_10 ?_
    exact hQ _ _ (by unfold fchosen; first | rw [if_pos (by omega)] | rw [if_neg (by omega), if_pos (by omega)] | rw [if_neg (by omega), if_neg (by omega), if_pos (by omega)] | rw [if_neg (by omega), if_neg (by omega), if_neg (by omega)] | rw [if_neg (by omega), if_neg (by omega)] | rw [if_neg (by omega)])

def fheard (τ : Sf) (w : Int) : Int := if w < 0 ∨ 11 < w then -101 else sm (fun p => if τ 10 p = -1 then 0 else τ 8 (p * 3 + τ 10 p) / p2 w % 2) 0 (τ 20 0)
set_option maxHeartbeats 4000000 in
set_option maxRecDepth 100000 in
theorem c_X0_heard {E : Ev} {d : Nat} {τ ζ : Sf} {Q : Option Value → Sf → Sf → Prop} {w : Int} (hI : InvX τ) (hrg : (-2147483648 ≤ w ∧ w < 2147483648)) (hQ : ∀ (z : Int) (ζ' : Sf), z = fheard τ w → Q (some (.int (zI z))) τ ζ') : C E GX kX0_heard (d + 2) [.ref (eAd E 0), .int (zI w)] τ ζ Q := by
  refine C_of (by decide) rfl rfl ?_
  show R E GX kX0_heard (d + 2) 0 [some (.ref (eAd E 0)), some (.int (zI w)), none, none] [] τ ζ Q
  obtain ⟨hn, hm, hmk, hys, hpu, hcu, hpl, hwe, hpr, hmi, hwo, hco, hch⟩ := id hI
  refine R_iload_n dX0_heard_0 rfl ?_
  refine R_callS1 (k2 := kX0_isWork) dX0_heard_1 rfl gX0_heard_X0_isWork kkX0_isWork (Nat.le_of_ble_eq_true rfl) (c_X0_isWork (by omega) (fun b1 => ?_) (fun b1 => ?_))
  · show R _ _ _ _ 4 _ [_] _ _ _
    refine R_if_ne (tgt := 10) (by decide) dX0_heard_4 (by decide) (fun _ => ?_) (fun h => absurd h (by decide))
    have loop : ∀ (N : Nat) (p s : Int), (τ 20 0 - p).toNat = N → 0 ≤ p → p ≤ τ 20 0 → s + sm (fun p => if τ 10 p = -1 then 0 else τ 8 (p * 3 + τ 10 p) / p2 w % 2) p (τ 20 0) = sm (fun p => if τ 10 p = -1 then 0 else τ 8 (p * 3 + τ 10 p) / p2 w % 2) 0 (τ 20 0) → R E GX kX0_heard (d + 2) 14 [some (.ref (eAd E 0)), some (.int (zI w)), some (.int (zI s)), some (.int (zI p))] [] τ ζ Q := by
      refine st_ind (fun N ih => ?_)
      intro p s hN hx hx2 hs
      refine R_iload_n dX0_heard_14 rfl ?_
      refine R_aload_n dX0_heard_15 rfl ?_
      refine R_getI 20 fX0_heard_7 rfl rfl dX0_heard_16 ?_
      refine R_icmp_ge (tgt := 60) (by omega) dX0_heard_19 (by decide) (fun c19 => ?_) (fun c19 => ?_)
      · refine R_iload_n dX0_heard_60 rfl ?_
        refine R_iret rfl dX0_heard_61 ?_
        rw [sm_ge (by omega)] at hs
        exact hQ _ _ (by unfold fheard; rw [if_neg (by omega)]; omega)
      · have hcp := hch p
        have hwx := hwo (p * 3 + τ 10 p)
        have hdv := Int.ediv_nonneg (a := τ 8 (p * 3 + τ 10 p)) (b := p2 w) (by omega) (by have := p2_pos w; omega)
        refine R_aload_n dX0_heard_22 rfl ?_
        refine R_getR fX0_heard_44 dX0_heard_23 ?_
        refine R_iload_n dX0_heard_26 rfl ?_
        refine R_iald (q := 10) rfl rfl (by omega) rfl dX0_heard_27 ?_
        refine R_iconst dX0_heard_28 ?_
        refine R_icmp_eq (tgt := 54) (by omega) dX0_heard_29 (by decide) (fun c29 => ?_) (fun c29 => ?_)
        · refine R_iinc dX0_heard_54 rfl rfl rfl ?_
          refine R_goto (tgt := 14) dX0_heard_57 (by decide) ?_
          rw [sm_lt (by omega)] at hs
          refine ih (τ 20 0 - (p + 1)).toNat (by omega) (p + 1) _ rfl (by omega) (by omega) ?_
          first
          | (rw [if_neg (show ¬ τ 10 p = -1 by omega)] at hs
             omega)
          | (rw [if_pos (show τ 10 p = -1 by omega)] at hs
             omega)
        · refine R_iload_n dX0_heard_32 rfl ?_
          refine R_aload_n dX0_heard_33 rfl ?_
          refine R_getR fX0_heard_38 dX0_heard_34 ?_
          refine R_iload_n dX0_heard_37 rfl ?_
          refine R_aload_n dX0_heard_38 rfl ?_
          refine R_getR fX0_heard_44 dX0_heard_39 ?_
          refine R_iload_n dX0_heard_42 rfl ?_
          refine R_iald (q := 10) rfl rfl (by omega) rfl dX0_heard_43 ?_
          refine R_callS2 (k2 := kX0_programmeCellOf) dX0_heard_44 rfl gX0_heard_X0_programmeCellOf kkX0_programmeCellOf (Nat.le_of_ble_eq_true rfl) (c_X0_programmeCellOf (fun r44 h44 => ?_))
          subst h44
          show R _ _ _ _ 47 _ [_, _, _] _ _ _
          refine R_iald (q := 8) rfl rfl (by omega) rfl dX0_heard_47 ?_
          refine R_iload_n dX0_heard_48 rfl ?_
          refine R_ishr _ (zI_shr (by omega) (by omega)) dX0_heard_49 ?_
          refine R_iconst dX0_heard_50 ?_
          refine R_iand _ (zI_and1 hdv) dX0_heard_51 ?_
          refine R_iadd dX0_heard_52 ?_
          refine R_istore_n dX0_heard_53 rfl rfl ?_
          refine R_iinc dX0_heard_54 rfl rfl rfl ?_
          refine R_goto (tgt := 14) dX0_heard_57 (by decide) ?_
          rw [sm_lt (by omega)] at hs
          refine ih (τ 20 0 - (p + 1)).toNat (by omega) (p + 1) _ rfl (by omega) (by omega) ?_
          first
          | (rw [if_neg (show ¬ τ 10 p = -1 by omega)] at hs
             omega)
          | (rw [if_pos (show τ 10 p = -1 by omega)] at hs
             omega)
    refine R_iconst dX0_heard_10 ?_
    refine R_istore_n dX0_heard_11 rfl rfl ?_
    refine R_iconst dX0_heard_12 ?_
    refine R_istore_n dX0_heard_13 rfl rfl ?_
    exact loop _ 0 0 rfl (by omega) (by omega) (by omega)
  · show R _ _ _ _ 4 _ [_] _ _ _
    refine R_if_ne (tgt := 10) (by decide) dX0_heard_4 (by decide) (fun h => absurd h (by decide)) (fun _ => ?_)
    refine R_bipush dX0_heard_7 (by decide) ?_
    refine R_iret rfl dX0_heard_9 ?_
    exact hQ _ _ (by unfold fheard; first | rw [if_pos (by omega)] | rw [if_neg (by omega), if_pos (by omega)] | rw [if_neg (by omega), if_neg (by omega), if_pos (by omega)] | rw [if_neg (by omega), if_neg (by omega), if_neg (by omega)] | rw [if_neg (by omega), if_neg (by omega)] | rw [if_neg (by omega)])

set_option maxHeartbeats 4000000 in
set_option maxRecDepth 100000 in
theorem c_X0_countMarks {E : Ev} {d : Nat} {τ ζ : Sf} {Q : Option Value → Sf → Sf → Prop} (hI : InvX τ) (hQ : ∀ z : Int, z = sm (fun i => if τ 1 i = -1 then 0 else 1) 0 210 → Q (some (.int (zI z))) τ ζ) : C E GX kX0_countMarks d [.ref (eAd E 0)] τ ζ Q := by
  refine C_of (by decide) rfl rfl ?_
  show R E GX kX0_countMarks d 0 [some (.ref (eAd E 0)), none, none] [] τ ζ Q
  obtain ⟨hn, hm, hmk, hys, hpu, hcu, hpl, hwe, hpr, hmi, hwo, hco, hch⟩ := id hI
  have loop : ∀ (N : Nat) (i s : Int), (210 - i).toNat = N → 0 ≤ i → i ≤ 210 → s + sm (fun i => if τ 1 i = -1 then 0 else 1) i 210 = sm (fun i => if τ 1 i = -1 then 0 else 1) 0 210 → R E GX kX0_countMarks d 4 [some (.ref (eAd E 0)), some (.int (zI s)), some (.int (zI i))] [] τ ζ Q := by
    refine st_ind (fun N ih => ?_)
    intro i s hN hi hi2 hs
    have hmi := hmk i
    refine R_iload_n dX0_countMarks_4 rfl ?_
    refine R_aload_n dX0_countMarks_5 rfl ?_
    refine R_getR fX0_countMarks_16 dX0_countMarks_6 ?_
    refine R_alen (q := 1) rfl dX0_countMarks_9 ?_
    refine R_icmp_ge (tgt := 32) (by omega) dX0_countMarks_10 (by decide) (fun c10 => ?_) (fun c10 => ?_)
    · refine R_iload_n dX0_countMarks_32 rfl ?_
      refine R_iret rfl dX0_countMarks_33 ?_
      rw [sm_ge (by omega)] at hs
      exact hQ _ (by omega)
    · refine R_aload_n dX0_countMarks_13 rfl ?_
      refine R_getR fX0_countMarks_16 dX0_countMarks_14 ?_
      refine R_iload_n dX0_countMarks_17 rfl ?_
      refine R_iald (q := 1) rfl rfl (by omega) rfl dX0_countMarks_18 ?_
      refine R_iconst dX0_countMarks_19 ?_
      refine R_icmp_eq (tgt := 26) (by omega) dX0_countMarks_20 (by decide) (fun c20 => ?_) (fun c20 => ?_)
      · refine R_iinc dX0_countMarks_26 rfl rfl rfl ?_
        refine R_goto (tgt := 4) dX0_countMarks_29 (by decide) ?_
        rw [sm_lt (by omega)] at hs
        refine ih (210 - (i + 1)).toNat (by omega) (i + 1) _ rfl (by omega) (by omega) ?_
        first
        | (rw [if_neg (show ¬ τ 1 i = -1 by omega)] at hs
           omega)
        | (rw [if_pos (show τ 1 i = -1 by omega)] at hs
           omega)
      · refine R_iinc dX0_countMarks_23 rfl rfl rfl ?_
        refine R_iinc dX0_countMarks_26 rfl rfl rfl ?_
        refine R_goto (tgt := 4) dX0_countMarks_29 (by decide) ?_
        rw [sm_lt (by omega)] at hs
        refine ih (210 - (i + 1)).toNat (by omega) (i + 1) _ rfl (by omega) (by omega) ?_
        first
        | (rw [if_neg (show ¬ τ 1 i = -1 by omega)] at hs
           omega)
        | (rw [if_pos (show τ 1 i = -1 by omega)] at hs
           omega)
  refine R_iconst dX0_countMarks_0 ?_
  refine R_istore_n dX0_countMarks_1 rfl rfl ?_
  refine R_iconst dX0_countMarks_2 ?_
  refine R_istore_n dX0_countMarks_3 rfl rfl ?_
  exact loop _ 0 0 rfl (by omega) (by omega) (by omega)

def fcount (τ : Sf) (w : Int) : Int := if w = 0 then τ 20 0 else if w = 1 then τ 21 0 else if w = 2 then sm (fun i => if τ 1 i = -1 then 0 else 1) 0 210 else if w = 3 then sm (τ 2) 0 210 else if w = 4 then sm (τ 3) 0 70 else if w = 5 then sm (τ 9) 0 10 else -102
set_option maxHeartbeats 4000000 in
set_option maxRecDepth 100000 in
theorem c_X0_count {E : Ev} {d : Nat} {τ ζ : Sf} {Q : Option Value → Sf → Sf → Prop} {w : Int} (hI : InvX τ) (hrg : (-2147483648 ≤ w ∧ w < 2147483648)) (hQ : ∀ (z : Int) (ζ' : Sf), z = fcount τ w → Q (some (.int (zI z))) τ ζ') : C E GX kX0_count (d + 1) [.ref (eAd E 0), .int (zI w)] τ ζ Q := by
  refine C_of (by decide) rfl rfl ?_
  show R E GX kX0_count (d + 1) 0 [some (.ref (eAd E 0)), some (.int (zI w))] [] τ ζ Q
  by_cases hw : 0 ≤ w ∧ w ≤ 5
  · rcases (show w = 0 ∨ w = 1 ∨ w = 2 ∨ w = 3 ∨ w = 4 ∨ w = 5 by omega) with rfl | rfl | rfl | rfl | rfl | rfl
    · refine R_iload_n dX0_count_0 rfl ?_
      refine R_tabIn (tgt := 40) (by decide) dX0_count_1 (by decide) (off := 39) rfl (by decide) ?_
      refine R_aload_n dX0_count_40 rfl ?_
      refine R_getI 20 fX0_count_7 rfl rfl dX0_count_41 ?_
      refine R_iret rfl dX0_count_44 ?_
      exact hQ _ _ rfl
    · refine R_iload_n dX0_count_0 rfl ?_
      refine R_tabIn (tgt := 45) (by decide) dX0_count_1 (by decide) (off := 44) rfl (by decide) ?_
      refine R_aload_n dX0_count_45 rfl ?_
      refine R_getI 21 fX0_count_13 rfl rfl dX0_count_46 ?_
      refine R_iret rfl dX0_count_49 ?_
      exact hQ _ _ rfl
    · refine R_iload_n dX0_count_0 rfl ?_
      refine R_tabIn (tgt := 50) (by decide) dX0_count_1 (by decide) (off := 49) rfl (by decide) ?_
      refine R_aload_n dX0_count_50 rfl ?_
      refine R_callV0 (k2 := kX0_countMarks) dX0_count_51 rfl gX0_count_X0_countMarks kkX0_countMarks rfl rfl (Nat.le_of_ble_eq_true rfl) (c_X0_countMarks hI (fun r51 h51 => ?_))
      subst h51
      show R _ _ _ _ 54 _ [_] _ _ _
      refine R_iret rfl dX0_count_54 ?_
      exact hQ _ _ rfl
    · refine R_iload_n dX0_count_0 rfl ?_
      refine R_tabIn (tgt := 55) (by decide) dX0_count_1 (by decide) (off := 54) rfl (by decide) ?_
      refine R_aload_n dX0_count_55 rfl ?_
      refine R_getR fX0_count_20 dX0_count_56 ?_
      refine R_callS1 (k2 := kX0_sumOf) dX0_count_59 rfl gX0_count_X0_sumOf kkX0_sumOf (Nat.le_of_ble_eq_true rfl) (c_X0_sumOf rfl rfl rfl (fun r59 h59 => ?_))
      subst h59
      show R _ _ _ _ 62 _ [_] _ _ _
      refine R_iret rfl dX0_count_62 ?_
      exact hQ _ _ rfl
    · refine R_iload_n dX0_count_0 rfl ?_
      refine R_tabIn (tgt := 63) (by decide) dX0_count_1 (by decide) (off := 62) rfl (by decide) ?_
      refine R_aload_n dX0_count_63 rfl ?_
      refine R_getR fX0_count_23 dX0_count_64 ?_
      refine R_callS1 (k2 := kX0_sumOf) dX0_count_67 rfl gX0_count_X0_sumOf kkX0_sumOf (Nat.le_of_ble_eq_true rfl) (c_X0_sumOf rfl rfl rfl (fun r67 h67 => ?_))
      subst h67
      show R _ _ _ _ 70 _ [_] _ _ _
      refine R_iret rfl dX0_count_70 ?_
      exact hQ _ _ rfl
    · refine R_iload_n dX0_count_0 rfl ?_
      refine R_tabIn (tgt := 71) (by decide) dX0_count_1 (by decide) (off := 70) rfl (by decide) ?_
      refine R_aload_n dX0_count_71 rfl ?_
      refine R_getR fX0_count_41 dX0_count_72 ?_
      refine R_callS1 (k2 := kX0_sumOf) dX0_count_75 rfl gX0_count_X0_sumOf kkX0_sumOf (Nat.le_of_ble_eq_true rfl) (c_X0_sumOf rfl rfl rfl (fun r75 h75 => ?_))
      subst h75
      show R _ _ _ _ 78 _ [_] _ _ _
      refine R_iret rfl dX0_count_78 ?_
      exact hQ _ _ rfl
  · refine R_iload_n dX0_count_0 rfl ?_
    refine R_tabOut (tgt := 79) (by omega) dX0_count_1 (by omega) (by decide) ?_
    refine R_bipush dX0_count_79 (by decide) ?_
    refine R_iret rfl dX0_count_81 ?_
    exact hQ _ _ (by unfold fcount; rw [if_neg (by omega), if_neg (by omega), if_neg (by omega), if_neg (by omega), if_neg (by omega), if_neg (by omega)])

set_option maxHeartbeats 4000000 in
set_option maxRecDepth 100000 in
theorem c_X0_mixed {E : Ev} {d : Nat} {τ ζ : Sf} {Q : Option Value → Sf → Sf → Prop} {h v : Int} (hQ : ∀ z : Int, z = 31 * h + v → Q (some (.long (zL z))) τ ζ) : C E GX kX0_mixed d [.long (zL h), .long (zL v)] τ ζ Q := by
  refine C_of (by decide) rfl rfl ?_
  show R E GX kX0_mixed d 0 [some (.long (zL (h))), none, some (.long (zL (v))), none] [] τ ζ Q
  refine R_ldc2 31 dX0_mixed_0 cnX0_mixed_236 rfl ?_
  refine R_lload_n dX0_mixed_3 rfl ?_
  refine R_lmul dX0_mixed_4 ?_
  refine R_lload_n dX0_mixed_5 rfl ?_
  refine R_ladd dX0_mixed_6 ?_
  refine R_lret rfl dX0_mixed_7 ?_
  exact hQ _ rfl

set_option maxHeartbeats 4000000 in
set_option maxRecDepth 100000 in
theorem c_X0_mixedRow {E : Ev} {d : Nat} {τ ζ : Sf} {Q : Option Value → Sf → Sf → Prop} {q n : Nat} (hq : GX.2.1[q]? = some (.inr (0, n))) (hp : GX.1 q = true) (hn : Nat.blt n 2147483648 = true) {h : Int} (hb : ∀ i, -2147483648 ≤ τ q i ∧ τ q i < 2147483648) (hQ : ∀ z : Int, z = fo (fun i h => 31 * h + τ q i) 0 n h → Q (some (.long (zL z))) τ ζ) : C E GX kX0_mixedRow (d + 1) [.long (zL h), .ref (eAd E q)] τ ζ Q := by
  refine C_of (by decide) rfl rfl ?_
  show R E GX kX0_mixedRow (d + 1) 0 [some (.long (zL (h))), none, some (.ref (eAd E q)), none, none, none] [] τ ζ Q
  have hN := Nat.blt_eq.mp hn
  have loop : ∀ (N : Nat) (i s : Int), ((n : Int) - i).toNat = N → 0 ≤ i → i ≤ n → fo (fun i h => 31 * h + τ q i) i n s = fo (fun i h => 31 * h + τ q i) 0 n h → R E GX kX0_mixedRow (d + 1) 5 [some (.long (zL (h))), none, some (.ref (eAd E q)), some (.long (zL (s))), none, some (.int (zI i))] [] τ ζ Q := by
    refine st_ind (fun N ih => ?_)
    intro i s hN' hi hi2 hs
    have hbi := hb i
    refine R_iload dX0_mixedRow_5 rfl ?_
    refine R_aload_n dX0_mixedRow_7 rfl ?_
    refine R_alen (q := q) hq dX0_mixedRow_8 ?_
    refine R_icmp_ge (tgt := 28) (by omega) dX0_mixedRow_9 (by decide) (fun c9 => ?_) (fun c9 => ?_)
    · refine R_lload_n dX0_mixedRow_28 rfl ?_
      refine R_lret rfl dX0_mixedRow_29 ?_
      rw [fo_ge (by omega)] at hs
      exact hQ _ hs
    · refine R_lload_n dX0_mixedRow_12 rfl ?_
      refine R_aload_n dX0_mixedRow_13 rfl ?_
      refine R_iload dX0_mixedRow_14 rfl ?_
      refine R_iald (q := q) hq hp (by omega) hn dX0_mixedRow_16 ?_
      refine R_i2l (by omega) dX0_mixedRow_17 ?_
      refine R_callS2 (k2 := kX0_mixed) dX0_mixedRow_18 rfl gX0_mixedRow_X0_mixed kkX0_mixed (Nat.le_of_ble_eq_true rfl) (c_X0_mixed (fun r18 h18 => ?_))
      subst h18
      show R _ _ _ _ 21 _ [_] _ _ _
      refine R_lstore_n dX0_mixedRow_21 rfl rfl ?_
      refine R_iinc dX0_mixedRow_22 rfl rfl rfl ?_
      refine R_goto (tgt := 5) dX0_mixedRow_25 (by decide) ?_
      exact ih ((n : Int) - (i + 1)).toNat (by omega) (i + 1) _ rfl (by omega) (by omega) (by rw [fo_lt (by omega)] at hs; exact hs)
  refine R_lload_n dX0_mixedRow_0 rfl ?_
  refine R_lstore_n dX0_mixedRow_1 rfl rfl ?_
  refine R_iconst dX0_mixedRow_2 ?_
  refine R_istore dX0_mixedRow_3 rfl rfl ?_
  exact loop _ 0 h rfl (by omega) (by omega) rfl

/-- the long of one round -/
def dgC (τ : Sf) (r j p h : Int) : Int := 31 * (31 * h + τ 1 ((r * 7 + j) * 10 + p)) + τ 2 ((r * 7 + j) * 10 + p)
def dgJ (τ : Sf) (r j h : Int) : Int := fo (fun p h => dgC τ r j p h) 0 (τ 20 0) h
def dgR (τ : Sf) (r h : Int) : Int := fo (fun j h => dgJ τ r j h) 0 (τ 21 0) h
def dgP (τ : Sf) (j h : Int) : Int := fo (fun p h => 31 * h + τ 3 (j * 10 + p)) 0 (τ 20 0) h
set_option maxHeartbeats 4000000 in
set_option maxRecDepth 100000 in
theorem c_X0_mixedRound {E : Ev} {d : Nat} {τ ζ : Sf} {Q : Option Value → Sf → Sf → Prop} {h r : Int} (hI : InvX τ) (hr : 0 ≤ r ∧ r < 3) (hQ : ∀ z : Int, z = dgR τ r h → Q (some (.long (zL z))) τ ζ) : C E GX kX0_mixedRound (d + 2) [.ref (eAd E 0), .long (zL h), .int (zI r)] τ ζ Q := by
  refine C_of (by decide) rfl rfl ?_
  show R E GX kX0_mixedRound (d + 2) 0 [some (.ref (eAd E 0)), some (.long (zL (h))), none, some (.int (zI r)), none, none, none, none, none] [] τ ζ Q
  obtain ⟨hn, hm, hmk, hys, hpu, hcu, hpl, hwe, hpr, hmi, hwo, hco, hch⟩ := id hI
  have loop : ∀ (N : Nat) (j s0 : Int) (o7 o8 : Option Value), (τ 21 0 - j).toNat = N → 0 ≤ j → j ≤ τ 21 0 → okS 8 [none, none, none, none, none, none, none, o7, none] = true → fo (fun j h => dgJ τ r j h) j (τ 21 0) s0 = dgR τ r h → R E GX kX0_mixedRound (d + 2) 6 [some (.ref (eAd E 0)), some (.long (zL (h))), none, some (.int (zI r)), some (.long (zL (s0))), none, some (.int (zI j)), o7, o8] [] τ ζ Q := by
    refine st_ind (fun N ih => ?_)
    intro j s0 o7 o8 hN hj hj2 g8 hs0
    refine R_iload dX0_mixedRound_6 rfl ?_
    refine R_aload_n dX0_mixedRound_8 rfl ?_
    refine R_getI 21 fX0_mixedRound_13 rfl rfl dX0_mixedRound_9 ?_
    refine R_icmp_ge (tgt := 75) (by omega) dX0_mixedRound_12 (by decide) (fun c12 => ?_) (fun c12 => ?_)
    · refine R_lload dX0_mixedRound_75 rfl ?_
      refine R_lret rfl dX0_mixedRound_77 ?_
      rw [fo_ge (by omega)] at hs0
      exact hQ _ hs0
    · have loop2 : ∀ (N : Nat) (p s : Int) (o8 : Option Value), (τ 20 0 - p).toNat = N → 0 ≤ p → p ≤ τ 20 0 → okS 8 [some (.ref (eAd E 0)), some (.long (zL (h))), none, some (.int (zI r)), some (.long (zL (s))), none, some (.int (zI j)), some (.int (zI p)), none] = true → fo (fun p h => dgC τ r j p h) p (τ 20 0) s = dgJ τ r j s0 → R E GX kX0_mixedRound (d + 2) 18 [some (.ref (eAd E 0)), some (.long (zL (h))), none, some (.int (zI r)), some (.long (zL (s))), none, some (.int (zI j)), some (.int (zI p)), o8] [] τ ζ Q := by
        refine st_ind (fun N ih2 => ?_)
        intro p s o8 hN2 hp hp2 g8 hs
        have hm1 := hmk ((r * 7 + j) * 10 + p)
        have hy1 := hys ((r * 7 + j) * 10 + p)
        refine R_iload dX0_mixedRound_18 rfl ?_
        refine R_aload_n dX0_mixedRound_20 rfl ?_
        refine R_getI 20 fX0_mixedRound_7 rfl rfl dX0_mixedRound_21 ?_
        refine R_icmp_ge (tgt := 69) (by omega) dX0_mixedRound_24 (by decide) (fun c24 => ?_) (fun c24 => ?_)
        · refine R_iinc dX0_mixedRound_69 rfl rfl rfl ?_
          refine R_goto (tgt := 6) dX0_mixedRound_72 (by decide) ?_
          rw [fo_ge (by omega)] at hs
          rw [hs]
          rw [fo_lt (by omega)] at hs0
          exact ih _ (by omega) (j + 1) _ _ _ rfl (by omega) (by omega) rfl hs0
        · refine R_iload_n dX0_mixedRound_27 rfl ?_
          refine R_iload dX0_mixedRound_28 rfl ?_
          refine R_iload dX0_mixedRound_30 rfl ?_
          refine R_callS3 (k2 := kX0_cellOf) dX0_mixedRound_32 rfl gX0_mixedRound_X0_cellOf kkX0_cellOf (Nat.le_of_ble_eq_true rfl) (c_X0_cellOf (fun r32 h32 => ?_))
          subst h32
          show R _ _ _ _ 35 _ [_] _ _ _
          refine R_istore dX0_mixedRound_35 rfl rfl ?_
          refine R_lload dX0_mixedRound_37 rfl ?_
          refine R_aload_n dX0_mixedRound_39 rfl ?_
          refine R_getR fX0_mixedRound_16 dX0_mixedRound_40 ?_
          refine R_iload dX0_mixedRound_43 rfl ?_
          refine R_iald (q := 1) rfl rfl (by omega) rfl dX0_mixedRound_45 ?_
          refine R_i2l (by omega) dX0_mixedRound_46 ?_
          refine R_callS2 (k2 := kX0_mixed) dX0_mixedRound_47 rfl gX0_mixedRound_X0_mixed kkX0_mixed (Nat.le_of_ble_eq_true rfl) (c_X0_mixed (fun r47 h47 => ?_))
          subst h47
          show R _ _ _ _ 50 _ [_] _ _ _
          refine R_aload_n dX0_mixedRound_50 rfl ?_
          refine R_getR fX0_mixedRound_20 dX0_mixedRound_51 ?_
          refine R_iload dX0_mixedRound_54 rfl ?_
          refine R_iald (q := 2) rfl rfl (by omega) rfl dX0_mixedRound_56 ?_
          refine R_i2l (by omega) dX0_mixedRound_57 ?_
          refine R_callS2 (k2 := kX0_mixed) dX0_mixedRound_58 rfl gX0_mixedRound_X0_mixed kkX0_mixed (Nat.le_of_ble_eq_true rfl) (c_X0_mixed (fun r58 h58 => ?_))
          subst h58
          show R _ _ _ _ 61 _ [_] _ _ _
          refine R_lstore dX0_mixedRound_61 rfl rfl ?_
          refine R_iinc dX0_mixedRound_63 rfl rfl rfl ?_
          refine R_goto (tgt := 18) dX0_mixedRound_66 (by decide) ?_
          rw [fo_lt (by omega)] at hs
          exact ih2 _ (by omega) (p + 1) _ _ rfl (by omega) (by omega) rfl hs
      refine R_iconst dX0_mixedRound_15 ?_
      refine R_istore dX0_mixedRound_16 rfl rfl ?_
      exact loop2 _ 0 s0 _ rfl (by omega) (by omega) rfl rfl
  refine R_lload_n dX0_mixedRound_0 rfl ?_
  refine R_lstore dX0_mixedRound_1 rfl rfl ?_
  refine R_iconst dX0_mixedRound_3 ?_
  refine R_istore dX0_mixedRound_4 rfl rfl ?_
  exact loop _ 0 h none none rfl (by omega) (by omega) rfl rfl

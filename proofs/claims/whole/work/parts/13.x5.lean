def fcontest (τ : Sf) (n m : Int) : Int := if n < 1 ∨ 10 < n ∨ m < 1 ∨ 7 < m then -102 else n
def tcontest (τ : Sf) (n m : Int) : Sf := if n < 1 ∨ 10 < n ∨ m < 1 ∨ 7 < m then τ else fil (fil (fil (fil (fil (up (up τ 20 0 n) 21 0 m) 1 0 210 (-1)) 2 0 210 0) 3 0 70 0) 9 0 10 0) 10 0 10 (-1)
set_option maxHeartbeats 4000000 in
set_option maxRecDepth 100000 in
theorem c_X0_contest {E : Ev} {d : Nat} {τ ζ : Sf} {Q : Option Value → Sf → Sf → Prop} {n m : Int} (hI : InvX τ) (hrg : (-2147483648 ≤ n ∧ n < 2147483648) ∧ (-2147483648 ≤ m ∧ m < 2147483648)) (hQ : ∀ (z : Int) (τ' ζ' : Sf), z = fcontest τ n m → τ' = tcontest τ n m → Q (some (.int (zI z))) τ' ζ') : C E GX kX0_contest (d + 2) [.ref (eAd E 0), .int (zI n), .int (zI m)] τ ζ Q := by
  refine C_of (by decide) rfl rfl ?_
  show R E GX kX0_contest (d + 2) 0 [some (.ref (eAd E 0)), some (.int (zI n)), some (.int (zI m))] [] τ ζ Q
  obtain ⟨hn, hm, hmk, hys, hpu, hcu, hpl, hwe, hpr, hmi, hwo, hco, hch⟩ := id hI
  refine R_iload_n dX0_contest_0 rfl ?_
  refine R_iconst dX0_contest_1 ?_
  refine R_bipush dX0_contest_2 (by decide) ?_
  refine R_callS3 (k2 := kX0_isWithin) dX0_contest_4 rfl gX0_contest_X0_isWithin kkX0_isWithin (Nat.le_of_ble_eq_true rfl) (c_X0_isWithin (by omega) (fun b4 => ?_) (fun b4 => ?_))
  · show R _ _ _ _ 7 _ [_] _ _ _
    refine R_if_eq (tgt := 20) (by decide) dX0_contest_7 (by decide) (fun h => absurd h (by decide)) (fun _ => ?_)
    refine R_iload_n dX0_contest_10 rfl ?_
    refine R_iconst dX0_contest_11 ?_
    refine R_bipush dX0_contest_12 (by decide) ?_
    refine R_callS3 (k2 := kX0_isWithin) dX0_contest_14 rfl gX0_contest_X0_isWithin kkX0_isWithin (Nat.le_of_ble_eq_true rfl) (c_X0_isWithin (by omega) (fun b14 => ?_) (fun b14 => ?_))
    · show R _ _ _ _ 17 _ [_] _ _ _
      refine R_if_ne (tgt := 23) (by decide) dX0_contest_17 (by decide) (fun _ => ?_) (fun h => absurd h (by decide))
      refine R_aload_n dX0_contest_23 rfl ?_
      refine R_iload_n dX0_contest_24 rfl ?_
      refine R_putI 20 fX0_contest_7 rfl rfl rfl (by decide +kernel) dX0_contest_25 ?_
      refine R_aload_n dX0_contest_28 rfl ?_
      refine R_iload_n dX0_contest_29 rfl ?_
      refine R_putI 21 fX0_contest_13 rfl rfl rfl (by decide +kernel) dX0_contest_30 ?_
      refine R_aload_n dX0_contest_33 rfl ?_
      refine R_callV0 (k2 := kX0_clearAll) dX0_contest_34 rfl gX0_contest_X0_clearAll kkX0_clearAll rfl rfl (Nat.le_of_ble_eq_true rfl) (c_X0_clearAll ?_)
      show R _ _ _ _ 37 _ [] _ _ _
      refine R_iload_n dX0_contest_37 rfl ?_
      refine R_iret rfl dX0_contest_38 ?_
      exact hQ _ _ _ (by unfold fcontest; first | rw [if_pos (by omega)] | rw [if_neg (by omega), if_pos (by omega)] | rw [if_neg (by omega), if_neg (by omega), if_pos (by omega)] | rw [if_neg (by omega), if_neg (by omega), if_neg (by omega)] | rw [if_neg (by omega), if_neg (by omega)] | rw [if_neg (by omega)]) (by unfold tcontest; first | rw [if_pos (by omega)] | rw [if_neg (by omega), if_pos (by omega)] | rw [if_neg (by omega), if_neg (by omega), if_pos (by omega)] | rw [if_neg (by omega), if_neg (by omega), if_neg (by omega)] | rw [if_neg (by omega), if_neg (by omega)] | rw [if_neg (by omega)])
    · show R _ _ _ _ 17 _ [_] _ _ _
      refine R_if_ne (tgt := 23) (by decide) dX0_contest_17 (by decide) (fun h => absurd h (by decide)) (fun _ => ?_)
      refine R_bipush dX0_contest_20 (by decide) ?_
      refine R_iret rfl dX0_contest_22 ?_
      exact hQ _ _ _ (by unfold fcontest; first | rw [if_pos (by omega)] | rw [if_neg (by omega), if_pos (by omega)] | rw [if_neg (by omega), if_neg (by omega), if_pos (by omega)] | rw [if_neg (by omega), if_neg (by omega), if_neg (by omega)] | rw [if_neg (by omega), if_neg (by omega)] | rw [if_neg (by omega)]) (by unfold tcontest; first | rw [if_pos (by omega)] | rw [if_neg (by omega), if_pos (by omega)] | rw [if_neg (by omega), if_neg (by omega), if_pos (by omega)] | rw [if_neg (by omega), if_neg (by omega), if_neg (by omega)] | rw [if_neg (by omega), if_neg (by omega)] | rw [if_neg (by omega)])
  · show R _ _ _ _ 7 _ [_] _ _ _
    refine R_if_eq (tgt := 20) (by decide) dX0_contest_7 (by decide) (fun _ => ?_) (fun h => absurd h (by decide))
    refine R_bipush dX0_contest_20 (by decide) ?_
    refine R_iret rfl dX0_contest_22 ?_
    exact hQ _ _ _ (by unfold fcontest; first | rw [if_pos (by omega)] | rw [if_neg (by omega), if_pos (by omega)] | rw [if_neg (by omega), if_neg (by omega), if_pos (by omega)] | rw [if_neg (by omega), if_neg (by omega), if_neg (by omega)] | rw [if_neg (by omega), if_neg (by omega)] | rw [if_neg (by omega)]) (by unfold tcontest; first | rw [if_pos (by omega)] | rw [if_neg (by omega), if_pos (by omega)] | rw [if_neg (by omega), if_neg (by omega), if_pos (by omega)] | rw [if_neg (by omega), if_neg (by omega), if_neg (by omega)] | rw [if_neg (by omega), if_neg (by omega)] | rw [if_neg (by omega)])

def fmark (τ : Sf) (r j p v : Int) : Int := if r < 0 ∨ 2 < r ∨ j < 0 ∨ τ 21 0 ≤ j ∨ p < 0 ∨ τ 20 0 ≤ p then -101 else if v ≠ -1 ∧ (v < 1 ∨ 100 < v) then -102 else τ 1 ((r * 7 + j) * 10 + p)
def tmark (τ : Sf) (r j p v : Int) : Sf := if r < 0 ∨ 2 < r ∨ j < 0 ∨ τ 21 0 ≤ j ∨ p < 0 ∨ τ 20 0 ≤ p then τ else if v ≠ -1 ∧ (v < 1 ∨ 100 < v) then τ else up τ 1 ((r * 7 + j) * 10 + p) v
set_option maxHeartbeats 4000000 in
set_option maxRecDepth 100000 in
theorem c_X0_mark {E : Ev} {d : Nat} {τ ζ : Sf} {Q : Option Value → Sf → Sf → Prop} {r j p v : Int} (hI : InvX τ) (hrg : (-2147483648 ≤ r ∧ r < 2147483648) ∧ (-2147483648 ≤ j ∧ j < 2147483648) ∧ (-2147483648 ≤ p ∧ p < 2147483648) ∧ (-2147483648 ≤ v ∧ v < 2147483648)) (hQ : ∀ (z : Int) (τ' ζ' : Sf), z = fmark τ r j p v → τ' = tmark τ r j p v → Q (some (.int (zI z))) τ' ζ') : C E GX kX0_mark (d + 2) [.ref (eAd E 0), .int (zI r), .int (zI j), .int (zI p), .int (zI v)] τ ζ Q := by
  refine C_of (by decide) rfl rfl ?_
  show R E GX kX0_mark (d + 2) 0 [some (.ref (eAd E 0)), some (.int (zI r)), some (.int (zI j)), some (.int (zI p)), some (.int (zI v))] [] τ ζ Q
  obtain ⟨hn, hm, hmk, hys, hpu, hcu, hpl, hwe, hpr, hmi, hwo, hco, hch⟩ := id hI
  refine R_iload_n dX0_mark_0 rfl ?_
  refine R_callS1 (k2 := kX0_isRound) dX0_mark_1 rfl gX0_mark_X0_isRound kkX0_isRound (Nat.le_of_ble_eq_true rfl) (c_X0_isRound (by omega) (fun b1 => ?_) (fun b1 => ?_))
  · show R _ _ _ _ 4 _ [_] _ _ _
    refine R_if_eq (tgt := 23) (by decide) dX0_mark_4 (by decide) (fun h => absurd h (by decide)) (fun _ => ?_)
    refine R_aload_n dX0_mark_7 rfl ?_
    refine R_iload_n dX0_mark_8 rfl ?_
    refine R_callV1 (k2 := kX0_isJuror) dX0_mark_9 rfl gX0_mark_X0_isJuror kkX0_isJuror rfl rfl (Nat.le_of_ble_eq_true rfl) (c_X0_isJuror hI (by omega) (fun b9 => ?_) (fun b9 => ?_))
    · show R _ _ _ _ 12 _ [_] _ _ _
      refine R_if_eq (tgt := 23) (by decide) dX0_mark_12 (by decide) (fun h => absurd h (by decide)) (fun _ => ?_)
      refine R_aload_n dX0_mark_15 rfl ?_
      refine R_iload_n dX0_mark_16 rfl ?_
      refine R_callV1 (k2 := kX0_isPlayer) dX0_mark_17 rfl gX0_mark_X0_isPlayer kkX0_isPlayer rfl rfl (Nat.le_of_ble_eq_true rfl) (c_X0_isPlayer hI (by omega) (fun b17 => ?_) (fun b17 => ?_))
      · show R _ _ _ _ 20 _ [_] _ _ _
        refine R_if_ne (tgt := 26) (by decide) dX0_mark_20 (by decide) (fun _ => ?_) (fun h => absurd h (by decide))
        refine R_iload dX0_mark_26 rfl ?_
        refine R_iconst dX0_mark_28 ?_
        refine R_icmp_eq (tgt := 46) (by omega) dX0_mark_29 (by decide) (fun c29 => ?_) (fun c29 => ?_)
        · refine R_aload_n dX0_mark_46 rfl ?_
          refine R_getR fX0_mark_16 dX0_mark_47 ?_
          refine R_iload_n dX0_mark_50 rfl ?_
          refine R_iload_n dX0_mark_51 rfl ?_
          refine R_iload_n dX0_mark_52 rfl ?_
          refine R_callS3 (k2 := kX0_cellOf) dX0_mark_53 rfl gX0_mark_X0_cellOf kkX0_cellOf (Nat.le_of_ble_eq_true rfl) (c_X0_cellOf (fun r53 h53 => ?_))
          subst h53
          show R _ _ _ _ 56 _ [_, _] _ _ _
          refine R_iload dX0_mark_56 rfl ?_
          refine R_callS3 (k2 := kX0_replace) dX0_mark_58 rfl gX0_mark_X0_replace kkX0_replace (Nat.le_of_ble_eq_true rfl) (c_X0_replace rfl rfl rfl (by omega) ?_)
          show R _ _ _ _ 61 _ [_] _ _ _
          refine R_iret rfl dX0_mark_61 ?_
          exact hQ _ _ _ (by unfold fmark; first | rw [if_pos (by omega)] | rw [if_neg (by omega), if_pos (by omega)] | rw [if_neg (by omega), if_neg (by omega), if_pos (by omega)] | rw [if_neg (by omega), if_neg (by omega), if_neg (by omega)] | rw [if_neg (by omega), if_neg (by omega)] | rw [if_neg (by omega)]) (by unfold tmark; first | rw [if_pos (by omega)] | rw [if_neg (by omega), if_pos (by omega)] | rw [if_neg (by omega), if_neg (by omega), if_pos (by omega)] | rw [if_neg (by omega), if_neg (by omega), if_neg (by omega)] | rw [if_neg (by omega), if_neg (by omega)] | rw [if_neg (by omega)])
        · refine R_iload dX0_mark_32 rfl ?_
          refine R_iconst dX0_mark_34 ?_
          refine R_bipush dX0_mark_35 (by decide) ?_
          refine R_callS3 (k2 := kX0_isWithin) dX0_mark_37 rfl gX0_mark_X0_isWithin kkX0_isWithin (Nat.le_of_ble_eq_true rfl) (c_X0_isWithin (by omega) (fun b37 => ?_) (fun b37 => ?_))
          · show R _ _ _ _ 40 _ [_] _ _ _
            refine R_if_ne (tgt := 46) (by decide) dX0_mark_40 (by decide) (fun _ => ?_) (fun h => absurd h (by decide))
            refine R_aload_n dX0_mark_46 rfl ?_
            refine R_getR fX0_mark_16 dX0_mark_47 ?_
            refine R_iload_n dX0_mark_50 rfl ?_
            refine R_iload_n dX0_mark_51 rfl ?_
            refine R_iload_n dX0_mark_52 rfl ?_
            refine R_callS3 (k2 := kX0_cellOf) dX0_mark_53 rfl gX0_mark_X0_cellOf kkX0_cellOf (Nat.le_of_ble_eq_true rfl) (c_X0_cellOf (fun r53 h53 => ?_))
            subst h53
            show R _ _ _ _ 56 _ [_, _] _ _ _
            refine R_iload dX0_mark_56 rfl ?_
            refine R_callS3 (k2 := kX0_replace) dX0_mark_58 rfl gX0_mark_X0_replace kkX0_replace (Nat.le_of_ble_eq_true rfl) (c_X0_replace rfl rfl rfl (by omega) ?_)
            show R _ _ _ _ 61 _ [_] _ _ _
            refine R_iret rfl dX0_mark_61 ?_
            exact hQ _ _ _ (by unfold fmark; first | rw [if_pos (by omega)] | rw [if_neg (by omega), if_pos (by omega)] | rw [if_neg (by omega), if_neg (by omega), if_pos (by omega)] | rw [if_neg (by omega), if_neg (by omega), if_neg (by omega)] | rw [if_neg (by omega), if_neg (by omega)] | rw [if_neg (by omega)]) (by unfold tmark; first | rw [if_pos (by omega)] | rw [if_neg (by omega), if_pos (by omega)] | rw [if_neg (by omega), if_neg (by omega), if_pos (by omega)] | rw [if_neg (by omega), if_neg (by omega), if_neg (by omega)] | rw [if_neg (by omega), if_neg (by omega)] | rw [if_neg (by omega)])
          · show R _ _ _ _ 40 _ [_] _ _ _
            refine R_if_ne (tgt := 46) (by decide) dX0_mark_40 (by decide) (fun h => absurd h (by decide)) (fun _ => ?_)
            refine R_bipush dX0_mark_43 (by decide) ?_
            refine R_iret rfl dX0_mark_45 ?_
            exact hQ _ _ _ (by unfold fmark; first | rw [if_pos (by omega)] | rw [if_neg (by omega), if_pos (by omega)] | rw [if_neg (by omega), if_neg (by omega), if_pos (by omega)] | rw [if_neg (by omega), if_neg (by omega), if_neg (by omega)] | rw [if_neg (by omega), if_neg (by omega)] | rw [if_neg (by omega)]) (by unfold tmark; first | rw [if_pos (by omega)] | rw [if_neg (by omega), if_pos (by omega)] | rw [if_neg (by omega), if_neg (by omega), if_pos (by omega)] | rw [if_neg (by omega), if_neg (by omega), if_neg (by omega)] | rw [if_neg (by omega), if_neg (by omega)] | rw [if_neg (by omega)])
      · show R _ _ _ _ 20 _ [_] _ _ _
        refine R_if_ne (tgt := 26) (by decide) dX0_mark_20 (by decide) (fun h => absurd h (by decide)) (fun _ => ?_)
        refine R_bipush dX0_mark_23 (by decide) ?_
        refine R_iret rfl dX0_mark_25 ?_
        exact hQ _ _ _ (by unfold fmark; first | rw [if_pos (by omega)] | rw [if_neg (by omega), if_pos (by omega)] | rw [if_neg (by omega), if_neg (by omega), if_pos (by omega)] | rw [if_neg (by omega), if_neg (by omega), if_neg (by omega)] | rw [if_neg (by omega), if_neg (by omega)] | rw [if_neg (by omega)]) (by unfold tmark; first | rw [if_pos (by omega)] | rw [if_neg (by omega), if_pos (by omega)] | rw [if_neg (by omega), if_neg (by omega), if_pos (by omega)] | rw [if_neg (by omega), if_neg (by omega), if_neg (by omega)] | rw [if_neg (by omega), if_neg (by omega)] | rw [if_neg (by omega)])
    · show R _ _ _ _ 12 _ [_] _ _ _
      refine R_if_eq (tgt := 23) (by decide) dX0_mark_12 (by decide) (fun _ => ?_) (fun h => absurd h (by decide))
      refine R_bipush dX0_mark_23 (by decide) ?_
      refine R_iret rfl dX0_mark_25 ?_
      exact hQ _ _ _ (by unfold fmark; first | rw [if_pos (by omega)] | rw [if_neg (by omega), if_pos (by omega)] | rw [if_neg (by omega), if_neg (by omega), if_pos (by omega)] | rw [if_neg (by omega), if_neg (by omega), if_neg (by omega)] | rw [if_neg (by omega), if_neg (by omega)] | rw [if_neg (by omega)]) (by unfold tmark; first | rw [if_pos (by omega)] | rw [if_neg (by omega), if_pos (by omega)] | rw [if_neg (by omega), if_neg (by omega), if_pos (by omega)] | rw [if_neg (by omega), if_neg (by omega), if_neg (by omega)] | rw [if_neg (by omega), if_neg (by omega)] | rw [if_neg (by omega)])
  · show R _ _ _ _ 4 _ [_] _ _ _
    refine R_if_eq (tgt := 23) (by decide) dX0_mark_4 (by decide) (fun _ => ?_) (fun h => absurd h (by decide))
    refine R_bipush dX0_mark_23 (by decide) ?_
    refine R_iret rfl dX0_mark_25 ?_
    exact hQ _ _ _ (by unfold fmark; first | rw [if_pos (by omega)] | rw [if_neg (by omega), if_pos (by omega)] | rw [if_neg (by omega), if_neg (by omega), if_pos (by omega)] | rw [if_neg (by omega), if_neg (by omega), if_neg (by omega)] | rw [if_neg (by omega), if_neg (by omega)] | rw [if_neg (by omega)]) (by unfold tmark; first | rw [if_pos (by omega)] | rw [if_neg (by omega), if_pos (by omega)] | rw [if_neg (by omega), if_neg (by omega), if_pos (by omega)] | rw [if_neg (by omega), if_neg (by omega), if_neg (by omega)] | rw [if_neg (by omega), if_neg (by omega)] | rw [if_neg (by omega)])

def fyes (τ : Sf) (r j p b : Int) : Int := if r < 0 ∨ 2 < r ∨ j < 0 ∨ τ 21 0 ≤ j ∨ p < 0 ∨ τ 20 0 ≤ p then -101 else τ 2 ((r * 7 + j) * 10 + p)
def tyes (τ : Sf) (r j p b : Int) : Sf := if r < 0 ∨ 2 < r ∨ j < 0 ∨ τ 21 0 ≤ j ∨ p < 0 ∨ τ 20 0 ≤ p then τ else up τ 2 ((r * 7 + j) * 10 + p) b
set_option maxHeartbeats 4000000 in
set_option maxRecDepth 100000 in
theorem c_X0_yes {E : Ev} {d : Nat} {τ ζ : Sf} {Q : Option Value → Sf → Sf → Prop} {r j p b : Int} (hI : InvX τ) (hrg : (-2147483648 ≤ r ∧ r < 2147483648) ∧ (-2147483648 ≤ j ∧ j < 2147483648) ∧ (-2147483648 ≤ p ∧ p < 2147483648)) (hzb : b = 0 ∨ b = 1) (hQ : ∀ (z : Int) (τ' ζ' : Sf), z = fyes τ r j p b → τ' = tyes τ r j p b → Q (some (.int (zI z))) τ' ζ') : C E GX kX0_yes (d + 2) [.ref (eAd E 0), .int (zI r), .int (zI j), .int (zI p), .int (zI b)] τ ζ Q := by
  refine C_of (by decide) rfl rfl ?_
  show R E GX kX0_yes (d + 2) 0 [some (.ref (eAd E 0)), some (.int (zI r)), some (.int (zI j)), some (.int (zI p)), some (.int (zI b))] [] τ ζ Q
  obtain ⟨hn, hm, hmk, hys, hpu, hcu, hpl, hwe, hpr, hmi, hwo, hco, hch⟩ := id hI
  refine R_iload_n dX0_yes_0 rfl ?_
  refine R_callS1 (k2 := kX0_isRound) dX0_yes_1 rfl gX0_yes_X0_isRound kkX0_isRound (Nat.le_of_ble_eq_true rfl) (c_X0_isRound (by omega) (fun b1 => ?_) (fun b1 => ?_))
  · show R _ _ _ _ 4 _ [_] _ _ _
    refine R_if_eq (tgt := 23) (by decide) dX0_yes_4 (by decide) (fun h => absurd h (by decide)) (fun _ => ?_)
    refine R_aload_n dX0_yes_7 rfl ?_
    refine R_iload_n dX0_yes_8 rfl ?_
    refine R_callV1 (k2 := kX0_isJuror) dX0_yes_9 rfl gX0_yes_X0_isJuror kkX0_isJuror rfl rfl (Nat.le_of_ble_eq_true rfl) (c_X0_isJuror hI (by omega) (fun b9 => ?_) (fun b9 => ?_))
    · show R _ _ _ _ 12 _ [_] _ _ _
      refine R_if_eq (tgt := 23) (by decide) dX0_yes_12 (by decide) (fun h => absurd h (by decide)) (fun _ => ?_)
      refine R_aload_n dX0_yes_15 rfl ?_
      refine R_iload_n dX0_yes_16 rfl ?_
      refine R_callV1 (k2 := kX0_isPlayer) dX0_yes_17 rfl gX0_yes_X0_isPlayer kkX0_isPlayer rfl rfl (Nat.le_of_ble_eq_true rfl) (c_X0_isPlayer hI (by omega) (fun b17 => ?_) (fun b17 => ?_))
      · show R _ _ _ _ 20 _ [_] _ _ _
        refine R_if_ne (tgt := 26) (by decide) dX0_yes_20 (by decide) (fun _ => ?_) (fun h => absurd h (by decide))
        refine R_aload_n dX0_yes_26 rfl ?_
        refine R_getR fX0_yes_20 dX0_yes_27 ?_
        refine R_iload_n dX0_yes_30 rfl ?_
        refine R_iload_n dX0_yes_31 rfl ?_
        refine R_iload_n dX0_yes_32 rfl ?_
        refine R_callS3 (k2 := kX0_cellOf) dX0_yes_33 rfl gX0_yes_X0_cellOf kkX0_cellOf (Nat.le_of_ble_eq_true rfl) (c_X0_cellOf (fun r33 h33 => ?_))
        subst h33
        show R _ _ _ _ 36 _ [_, _] _ _ _
        refine R_iload dX0_yes_36 rfl ?_
        refine R_if_eq (tgt := 45) (by omega) dX0_yes_38 (by decide) (fun c38 => ?_) (fun c38 => ?_)
        · refine R_iconst dX0_yes_45 ?_
          refine R_callS3 (k2 := kX0_replace) dX0_yes_46 rfl gX0_yes_X0_replace kkX0_replace (Nat.le_of_ble_eq_true rfl) (c_X0_replace rfl rfl rfl (by omega) ?_)
          show R _ _ _ _ 49 _ [_] _ _ _
          refine R_iret rfl dX0_yes_49 ?_
          first
          | (have hb1 : b = 1 := by omega
             subst hb1
             exact hQ _ _ _ (by unfold fyes; first | rw [if_pos (by omega)] | rw [if_neg (by omega), if_pos (by omega)] | rw [if_neg (by omega), if_neg (by omega), if_pos (by omega)] | rw [if_neg (by omega), if_neg (by omega), if_neg (by omega)] | rw [if_neg (by omega), if_neg (by omega)] | rw [if_neg (by omega)]) (by unfold tyes; first | rw [if_pos (by omega)] | rw [if_neg (by omega), if_pos (by omega)] | rw [if_neg (by omega), if_neg (by omega), if_pos (by omega)] | rw [if_neg (by omega), if_neg (by omega), if_neg (by omega)] | rw [if_neg (by omega), if_neg (by omega)] | rw [if_neg (by omega)]))
          | (have hb0 : b = 0 := by omega
             subst hb0
             exact hQ _ _ _ (by unfold fyes; first | rw [if_pos (by omega)] | rw [if_neg (by omega), if_pos (by omega)] | rw [if_neg (by omega), if_neg (by omega), if_pos (by omega)] | rw [if_neg (by omega), if_neg (by omega), if_neg (by omega)] | rw [if_neg (by omega), if_neg (by omega)] | rw [if_neg (by omega)]) (by unfold tyes; first | rw [if_pos (by omega)] | rw [if_neg (by omega), if_pos (by omega)] | rw [if_neg (by omega), if_neg (by omega), if_pos (by omega)] | rw [if_neg (by omega), if_neg (by omega), if_neg (by omega)] | rw [if_neg (by omega), if_neg (by omega)] | rw [if_neg (by omega)]))
          | exact hQ _ _ _ (by unfold fyes; first | rw [if_pos (by omega)] | rw [if_neg (by omega), if_pos (by omega)] | rw [if_neg (by omega), if_neg (by omega), if_pos (by omega)] | rw [if_neg (by omega), if_neg (by omega), if_neg (by omega)] | rw [if_neg (by omega), if_neg (by omega)] | rw [if_neg (by omega)]) (by unfold tyes; first | rw [if_pos (by omega)] | rw [if_neg (by omega), if_pos (by omega)] | rw [if_neg (by omega), if_neg (by omega), if_pos (by omega)] | rw [if_neg (by omega), if_neg (by omega), if_neg (by omega)] | rw [if_neg (by omega), if_neg (by omega)] | rw [if_neg (by omega)])
        · refine R_iconst dX0_yes_41 ?_
          refine R_goto (tgt := 46) dX0_yes_42 (by decide) ?_
          refine R_callS3 (k2 := kX0_replace) dX0_yes_46 rfl gX0_yes_X0_replace kkX0_replace (Nat.le_of_ble_eq_true rfl) (c_X0_replace rfl rfl rfl (by omega) ?_)
          show R _ _ _ _ 49 _ [_] _ _ _
          refine R_iret rfl dX0_yes_49 ?_
          first
          | (have hb1 : b = 1 := by omega
             subst hb1
             exact hQ _ _ _ (by unfold fyes; first | rw [if_pos (by omega)] | rw [if_neg (by omega), if_pos (by omega)] | rw [if_neg (by omega), if_neg (by omega), if_pos (by omega)] | rw [if_neg (by omega), if_neg (by omega), if_neg (by omega)] | rw [if_neg (by omega), if_neg (by omega)] | rw [if_neg (by omega)]) (by unfold tyes; first | rw [if_pos (by omega)] | rw [if_neg (by omega), if_pos (by omega)] | rw [if_neg (by omega), if_neg (by omega), if_pos (by omega)] | rw [if_neg (by omega), if_neg (by omega), if_neg (by omega)] | rw [if_neg (by omega), if_neg (by omega)] | rw [if_neg (by omega)]))
          | (have hb0 : b = 0 := by omega
             subst hb0
             exact hQ _ _ _ (by unfold fyes; first | rw [if_pos (by omega)] | rw [if_neg (by omega), if_pos (by omega)] | rw [if_neg (by omega), if_neg (by omega), if_pos (by omega)] | rw [if_neg (by omega), if_neg (by omega), if_neg (by omega)] | rw [if_neg (by omega), if_neg (by omega)] | rw [if_neg (by omega)]) (by unfold tyes; first | rw [if_pos (by omega)] | rw [if_neg (by omega), if_pos (by omega)] | rw [if_neg (by omega), if_neg (by omega), if_pos (by omega)] | rw [if_neg (by omega), if_neg (by omega), if_neg (by omega)] | rw [if_neg (by omega), if_neg (by omega)] | rw [if_neg (by omega)]))
          | exact hQ _ _ _ (by unfold fyes; first | rw [if_pos (by omega)] | rw [if_neg (by omega), if_pos (by omega)] | rw [if_neg (by omega), if_neg (by omega), if_pos (by omega)] | rw [if_neg (by omega), if_neg (by omega), if_neg (by omega)] | rw [if_neg (by omega), if_neg (by omega)] | rw [if_neg (by omega)]) (by unfold tyes; first | rw [if_pos (by omega)] | rw [if_neg (by omega), if_pos (by omega)] | rw [if_neg (by omega), if_neg (by omega), if_pos (by omega)] | rw [if_neg (by omega), if_neg (by omega), if_neg (by omega)] | rw [if_neg (by omega), if_neg (by omega)] | rw [if_neg (by omega)])
      · show R _ _ _ _ 20 _ [_] _ _ _
        refine R_if_ne (tgt := 26) (by decide) dX0_yes_20 (by decide) (fun h => absurd h (by decide)) (fun _ => ?_)
        refine R_bipush dX0_yes_23 (by decide) ?_
        refine R_iret rfl dX0_yes_25 ?_
        first
        | (have hb1 : b = 1 := by omega
           subst hb1
           exact hQ _ _ _ (by unfold fyes; first | rw [if_pos (by omega)] | rw [if_neg (by omega), if_pos (by omega)] | rw [if_neg (by omega), if_neg (by omega), if_pos (by omega)] | rw [if_neg (by omega), if_neg (by omega), if_neg (by omega)] | rw [if_neg (by omega), if_neg (by omega)] | rw [if_neg (by omega)]) (by unfold tyes; first | rw [if_pos (by omega)] | rw [if_neg (by omega), if_pos (by omega)] | rw [if_neg (by omega), if_neg (by omega), if_pos (by omega)] | rw [if_neg (by omega), if_neg (by omega), if_neg (by omega)] | rw [if_neg (by omega), if_neg (by omega)] | rw [if_neg (by omega)]))
        | (have hb0 : b = 0 := by omega
           subst hb0
           exact hQ _ _ _ (by unfold fyes; first | rw [if_pos (by omega)] | rw [if_neg (by omega), if_pos (by omega)] | rw [if_neg (by omega), if_neg (by omega), if_pos (by omega)] | rw [if_neg (by omega), if_neg (by omega), if_neg (by omega)] | rw [if_neg (by omega), if_neg (by omega)] | rw [if_neg (by omega)]) (by unfold tyes; first | rw [if_pos (by omega)] | rw [if_neg (by omega), if_pos (by omega)] | rw [if_neg (by omega), if_neg (by omega), if_pos (by omega)] | rw [if_neg (by omega), if_neg (by omega), if_neg (by omega)] | rw [if_neg (by omega), if_neg (by omega)] | rw [if_neg (by omega)]))
        | exact hQ _ _ _ (by unfold fyes; first | rw [if_pos (by omega)] | rw [if_neg (by omega), if_pos (by omega)] | rw [if_neg (by omega), if_neg (by omega), if_pos (by omega)] | rw [if_neg (by omega), if_neg (by omega), if_neg (by omega)] | rw [if_neg (by omega), if_neg (by omega)] | rw [if_neg (by omega)]) (by unfold tyes; first | rw [if_pos (by omega)] | rw [if_neg (by omega), if_pos (by omega)] | rw [if_neg (by omega), if_neg (by omega), if_pos (by omega)] | rw [if_neg (by omega), if_neg (by omega), if_neg (by omega)] | rw [if_neg (by omega), if_neg (by omega)] | rw [if_neg (by omega)])
    · show R _ _ _ _ 12 _ [_] _ _ _
      refine R_if_eq (tgt := 23) (by decide) dX0_yes_12 (by decide) (fun _ => ?_) (fun h => absurd h (by decide))
      refine R_bipush dX0_yes_23 (by decide) ?_
      refine R_iret rfl dX0_yes_25 ?_
      first
      | (have hb1 : b = 1 := by omega
         subst hb1
         exact hQ _ _ _ (by unfold fyes; first | rw [if_pos (by omega)] | rw [if_neg (by omega), if_pos (by omega)] | rw [if_neg (by omega), if_neg (by omega), if_pos (by omega)] | rw [if_neg (by omega), if_neg (by omega), if_neg (by omega)] | rw [if_neg (by omega), if_neg (by omega)] | rw [if_neg (by omega)]) (by unfold tyes; first | rw [if_pos (by omega)] | rw [if_neg (by omega), if_pos (by omega)] | rw [if_neg (by omega), if_neg (by omega), if_pos (by omega)] | rw [if_neg (by omega), if_neg (by omega), if_neg (by omega)] | rw [if_neg (by omega), if_neg (by omega)] | rw [if_neg (by omega)]))
      | (have hb0 : b = 0 := by omega
         subst hb0
         exact hQ _ _ _ (by unfold fyes; first | rw [if_pos (by omega)] | rw [if_neg (by omega), if_pos (by omega)] | rw [if_neg (by omega), if_neg (by omega), if_pos (by omega)] | rw [if_neg (by omega), if_neg (by omega), if_neg (by omega)] | rw [if_neg (by omega), if_neg (by omega)] | rw [if_neg (by omega)]) (by unfold tyes; first | rw [if_pos (by omega)] | rw [if_neg (by omega), if_pos (by omega)] | rw [if_neg (by omega), if_neg (by omega), if_pos (by omega)] | rw [if_neg (by omega), if_neg (by omega), if_neg (by omega)] | rw [if_neg (by omega), if_neg (by omega)] | rw [if_neg (by omega)]))
      | exact hQ _ _ _ (by unfold fyes; first | rw [if_pos (by omega)] | rw [if_neg (by omega), if_pos (by omega)] | rw [if_neg (by omega), if_neg (by omega), if_pos (by omega)] | rw [if_neg (by omega), if_neg (by omega), if_neg (by omega)] | rw [if_neg (by omega), if_neg (by omega)] | rw [if_neg (by omega)]) (by unfold tyes; first | rw [if_pos (by omega)] | rw [if_neg (by omega), if_pos (by omega)] | rw [if_neg (by omega), if_neg (by omega), if_pos (by omega)] | rw [if_neg (by omega), if_neg (by omega), if_neg (by omega)] | rw [if_neg (by omega), if_neg (by omega)] | rw [if_neg (by omega)])
  · show R _ _ _ _ 4 _ [_] _ _ _
    refine R_if_eq (tgt := 23) (by decide) dX0_yes_4 (by decide) (fun _ => ?_) (fun h => absurd h (by decide))
    refine R_bipush dX0_yes_23 (by decide) ?_
    refine R_iret rfl dX0_yes_25 ?_
    first
    | (have hb1 : b = 1 := by omega
       subst hb1
       exact hQ _ _ _ (by unfold fyes; first | rw [if_pos (by omega)] | rw [if_neg (by omega), if_pos (by omega)] | rw [if_neg (by omega), if_neg (by omega), if_pos (by omega)] | rw [if_neg (by omega), if_neg (by omega), if_neg (by omega)] | rw [if_neg (by omega), if_neg (by omega)] | rw [if_neg (by omega)]) (by unfold tyes; first | rw [if_pos (by omega)] | rw [if_neg (by omega), if_pos (by omega)] | rw [if_neg (by omega), if_neg (by omega), if_pos (by omega)] | rw [if_neg (by omega), if_neg (by omega), if_neg (by omega)] | rw [if_neg (by omega), if_neg (by omega)] | rw [if_neg (by omega)]))
    | (have hb0 : b = 0 := by omega
       subst hb0
       exact hQ _ _ _ (by unfold fyes; first | rw [if_pos (by omega)] | rw [if_neg (by omega), if_pos (by omega)] | rw [if_neg (by omega), if_neg (by omega), if_pos (by omega)] | rw [if_neg (by omega), if_neg (by omega), if_neg (by omega)] | rw [if_neg (by omega), if_neg (by omega)] | rw [if_neg (by omega)]) (by unfold tyes; first | rw [if_pos (by omega)] | rw [if_neg (by omega), if_pos (by omega)] | rw [if_neg (by omega), if_neg (by omega), if_pos (by omega)] | rw [if_neg (by omega), if_neg (by omega), if_neg (by omega)] | rw [if_neg (by omega), if_neg (by omega)] | rw [if_neg (by omega)]))
    | exact hQ _ _ _ (by unfold fyes; first | rw [if_pos (by omega)] | rw [if_neg (by omega), if_pos (by omega)] | rw [if_neg (by omega), if_neg (by omega), if_pos (by omega)] | rw [if_neg (by omega), if_neg (by omega), if_neg (by omega)] | rw [if_neg (by omega), if_neg (by omega)] | rw [if_neg (by omega)]) (by unfold tyes; first | rw [if_pos (by omega)] | rw [if_neg (by omega), if_pos (by omega)] | rw [if_neg (by omega), if_neg (by omega), if_pos (by omega)] | rw [if_neg (by omega), if_neg (by omega), if_neg (by omega)] | rw [if_neg (by omega), if_neg (by omega)] | rw [if_neg (by omega)])

def fpupil (τ : Sf) (j p b : Int) : Int := if j < 0 ∨ τ 21 0 ≤ j ∨ p < 0 ∨ τ 20 0 ≤ p then -101 else τ 3 (j * 10 + p)
def tpupil (τ : Sf) (j p b : Int) : Sf := if j < 0 ∨ τ 21 0 ≤ j ∨ p < 0 ∨ τ 20 0 ≤ p then τ else up τ 3 (j * 10 + p) b
set_option maxHeartbeats 4000000 in
set_option maxRecDepth 100000 in
theorem c_X0_pupil {E : Ev} {d : Nat} {τ ζ : Sf} {Q : Option Value → Sf → Sf → Prop} {j p b : Int} (hI : InvX τ) (hrg : (-2147483648 ≤ j ∧ j < 2147483648) ∧ (-2147483648 ≤ p ∧ p < 2147483648)) (hzb : b = 0 ∨ b = 1) (hQ : ∀ (z : Int) (τ' ζ' : Sf), z = fpupil τ j p b → τ' = tpupil τ j p b → Q (some (.int (zI z))) τ' ζ') : C E GX kX0_pupil (d + 2) [.ref (eAd E 0), .int (zI j), .int (zI p), .int (zI b)] τ ζ Q := by
  refine C_of (by decide) rfl rfl ?_
  show R E GX kX0_pupil (d + 2) 0 [some (.ref (eAd E 0)), some (.int (zI j)), some (.int (zI p)), some (.int (zI b))] [] τ ζ Q
  obtain ⟨hn, hm, hmk, hys, hpu, hcu, hpl, hwe, hpr, hmi, hwo, hco, hch⟩ := id hI
  refine R_aload_n dX0_pupil_0 rfl ?_
  refine R_iload_n dX0_pupil_1 rfl ?_
  refine R_callV1 (k2 := kX0_isJuror) dX0_pupil_2 rfl gX0_pupil_X0_isJuror kkX0_isJuror rfl rfl (Nat.le_of_ble_eq_true rfl) (c_X0_isJuror hI (by omega) (fun b2 => ?_) (fun b2 => ?_))
  · show R _ _ _ _ 5 _ [_] _ _ _
    refine R_if_eq (tgt := 16) (by decide) dX0_pupil_5 (by decide) (fun h => absurd h (by decide)) (fun _ => ?_)
    refine R_aload_n dX0_pupil_8 rfl ?_
    refine R_iload_n dX0_pupil_9 rfl ?_
    refine R_callV1 (k2 := kX0_isPlayer) dX0_pupil_10 rfl gX0_pupil_X0_isPlayer kkX0_isPlayer rfl rfl (Nat.le_of_ble_eq_true rfl) (c_X0_isPlayer hI (by omega) (fun b10 => ?_) (fun b10 => ?_))
    · show R _ _ _ _ 13 _ [_] _ _ _
      refine R_if_ne (tgt := 19) (by decide) dX0_pupil_13 (by decide) (fun _ => ?_) (fun h => absurd h (by decide))
      refine R_aload_n dX0_pupil_19 rfl ?_
      refine R_getR fX0_pupil_23 dX0_pupil_20 ?_
      refine R_iload_n dX0_pupil_23 rfl ?_
      refine R_iload_n dX0_pupil_24 rfl ?_
      refine R_callS2 (k2 := kX0_pupilCellOf) dX0_pupil_25 rfl gX0_pupil_X0_pupilCellOf kkX0_pupilCellOf (Nat.le_of_ble_eq_true rfl) (c_X0_pupilCellOf (fun r25 h25 => ?_))
      subst h25
      show R _ _ _ _ 28 _ [_, _] _ _ _
      refine R_iload_n dX0_pupil_28 rfl ?_
      refine R_if_eq (tgt := 36) (by omega) dX0_pupil_29 (by decide) (fun c29 => ?_) (fun c29 => ?_)
      · refine R_iconst dX0_pupil_36 ?_
        refine R_callS3 (k2 := kX0_replace) dX0_pupil_37 rfl gX0_pupil_X0_replace kkX0_replace (Nat.le_of_ble_eq_true rfl) (c_X0_replace rfl rfl rfl (by omega) ?_)
        show R _ _ _ _ 40 _ [_] _ _ _
        refine R_iret rfl dX0_pupil_40 ?_
        first
        | (have hb1 : b = 1 := by omega
           subst hb1
           exact hQ _ _ _ (by unfold fpupil; first | rw [if_pos (by omega)] | rw [if_neg (by omega), if_pos (by omega)] | rw [if_neg (by omega), if_neg (by omega), if_pos (by omega)] | rw [if_neg (by omega), if_neg (by omega), if_neg (by omega)] | rw [if_neg (by omega), if_neg (by omega)] | rw [if_neg (by omega)]) (by unfold tpupil; first | rw [if_pos (by omega)] | rw [if_neg (by omega), if_pos (by omega)] | rw [if_neg (by omega), if_neg (by omega), if_pos (by omega)] | rw [if_neg (by omega), if_neg (by omega), if_neg (by omega)] | rw [if_neg (by omega), if_neg (by omega)] | rw [if_neg (by omega)]))
        | (have hb0 : b = 0 := by omega
           subst hb0
           exact hQ _ _ _ (by unfold fpupil; first | rw [if_pos (by omega)] | rw [if_neg (by omega), if_pos (by omega)] | rw [if_neg (by omega), if_neg (by omega), if_pos (by omega)] | rw [if_neg (by omega), if_neg (by omega), if_neg (by omega)] | rw [if_neg (by omega), if_neg (by omega)] | rw [if_neg (by omega)]) (by unfold tpupil; first | rw [if_pos (by omega)] | rw [if_neg (by omega), if_pos (by omega)] | rw [if_neg (by omega), if_neg (by omega), if_pos (by omega)] | rw [if_neg (by omega), if_neg (by omega), if_neg (by omega)] | rw [if_neg (by omega), if_neg (by omega)] | rw [if_neg (by omega)]))
        | exact hQ _ _ _ (by unfold fpupil; first | rw [if_pos (by omega)] | rw [if_neg (by omega), if_pos (by omega)] | rw [if_neg (by omega), if_neg (by omega), if_pos (by omega)] | rw [if_neg (by omega), if_neg (by omega), if_neg (by omega)] | rw [if_neg (by omega), if_neg (by omega)] | rw [if_neg (by omega)]) (by unfold tpupil; first | rw [if_pos (by omega)] | rw [if_neg (by omega), if_pos (by omega)] | rw [if_neg (by omega), if_neg (by omega), if_pos (by omega)] | rw [if_neg (by omega), if_neg (by omega), if_neg (by omega)] | rw [if_neg (by omega), if_neg (by omega)] | rw [if_neg (by omega)])
      · refine R_iconst dX0_pupil_32 ?_
        refine R_goto (tgt := 37) dX0_pupil_33 (by decide) ?_
        refine R_callS3 (k2 := kX0_replace) dX0_pupil_37 rfl gX0_pupil_X0_replace kkX0_replace (Nat.le_of_ble_eq_true rfl) (c_X0_replace rfl rfl rfl (by omega) ?_)
        show R _ _ _ _ 40 _ [_] _ _ _
        refine R_iret rfl dX0_pupil_40 ?_
        first
        | (have hb1 : b = 1 := by omega
           subst hb1
           exact hQ _ _ _ (by unfold fpupil; first | rw [if_pos (by omega)] | rw [if_neg (by omega), if_pos (by omega)] | rw [if_neg (by omega), if_neg (by omega), if_pos (by omega)] | rw [if_neg (by omega), if_neg (by omega), if_neg (by omega)] | rw [if_neg (by omega), if_neg (by omega)] | rw [if_neg (by omega)]) (by unfold tpupil; first | rw [if_pos (by omega)] | rw [if_neg (by omega), if_pos (by omega)] | rw [if_neg (by omega), if_neg (by omega), if_pos (by omega)] | rw [if_neg (by omega), if_neg (by omega), if_neg (by omega)] | rw [if_neg (by omega), if_neg (by omega)] | rw [if_neg (by omega)]))
        | (have hb0 : b = 0 := by omega
           subst hb0
           exact hQ _ _ _ (by unfold fpupil; first | rw [if_pos (by omega)] | rw [if_neg (by omega), if_pos (by omega)] | rw [if_neg (by omega), if_neg (by omega), if_pos (by omega)] | rw [if_neg (by omega), if_neg (by omega), if_neg (by omega)] | rw [if_neg (by omega), if_neg (by omega)] | rw [if_neg (by omega)]) (by unfold tpupil; first | rw [if_pos (by omega)] | rw [if_neg (by omega), if_pos (by omega)] | rw [if_neg (by omega), if_neg (by omega), if_pos (by omega)] | rw [if_neg (by omega), if_neg (by omega), if_neg (by omega)] | rw [if_neg (by omega), if_neg (by omega)] | rw [if_neg (by omega)]))
        | exact hQ _ _ _ (by unfold fpupil; first | rw [if_pos (by omega)] | rw [if_neg (by omega), if_pos (by omega)] | rw [if_neg (by omega), if_neg (by omega), if_pos (by omega)] | rw [if_neg (by omega), if_neg (by omega), if_neg (by omega)] | rw [if_neg (by omega), if_neg (by omega)] | rw [if_neg (by omega)]) (by unfold tpupil; first | rw [if_pos (by omega)] | rw [if_neg (by omega), if_pos (by omega)] | rw [if_neg (by omega), if_neg (by omega), if_pos (by omega)] | rw [if_neg (by omega), if_neg (by omega), if_neg (by omega)] | rw [if_neg (by omega), if_neg (by omega)] | rw [if_neg (by omega)])
    · show R _ _ _ _ 13 _ [_] _ _ _
      refine R_if_ne (tgt := 19) (by decide) dX0_pupil_13 (by decide) (fun h => absurd h (by decide)) (fun _ => ?_)
      refine R_bipush dX0_pupil_16 (by decide) ?_
      refine R_iret rfl dX0_pupil_18 ?_
      first
      | (have hb1 : b = 1 := by omega
         subst hb1
         exact hQ _ _ _ (by unfold fpupil; first | rw [if_pos (by omega)] | rw [if_neg (by omega), if_pos (by omega)] | rw [if_neg (by omega), if_neg (by omega), if_pos (by omega)] | rw [if_neg (by omega), if_neg (by omega), if_neg (by omega)] | rw [if_neg (by omega), if_neg (by omega)] | rw [if_neg (by omega)]) (by unfold tpupil; first | rw [if_pos (by omega)] | rw [if_neg (by omega), if_pos (by omega)] | rw [if_neg (by omega), if_neg (by omega), if_pos (by omega)] | rw [if_neg (by omega), if_neg (by omega), if_neg (by omega)] | rw [if_neg (by omega), if_neg (by omega)] | rw [if_neg (by omega)]))
      | (have hb0 : b = 0 := by omega
         subst hb0
         exact hQ _ _ _ (by unfold fpupil; first | rw [if_pos (by omega)] | rw [if_neg (by omega), if_pos (by omega)] | rw [if_neg (by omega), if_neg (by omega), if_pos (by omega)] | rw [if_neg (by omega), if_neg (by omega), if_neg (by omega)] | rw [if_neg (by omega), if_neg (by omega)] | rw [if_neg (by omega)]) (by unfold tpupil; first | rw [if_pos (by omega)] | rw [if_neg (by omega), if_pos (by omega)] | rw [if_neg (by omega), if_neg (by omega), if_pos (by omega)] | rw [if_neg (by omega), if_neg (by omega), if_neg (by omega)] | rw [if_neg (by omega), if_neg (by omega)] | rw [if_neg (by omega)]))
      | exact hQ _ _ _ (by unfold fpupil; first | rw [if_pos (by omega)] | rw [if_neg (by omega), if_pos (by omega)] | rw [if_neg (by omega), if_neg (by omega), if_pos (by omega)] | rw [if_neg (by omega), if_neg (by omega), if_neg (by omega)] | rw [if_neg (by omega), if_neg (by omega)] | rw [if_neg (by omega)]) (by unfold tpupil; first | rw [if_pos (by omega)] | rw [if_neg (by omega), if_pos (by omega)] | rw [if_neg (by omega), if_neg (by omega), if_pos (by omega)] | rw [if_neg (by omega), if_neg (by omega), if_neg (by omega)] | rw [if_neg (by omega), if_neg (by omega)] | rw [if_neg (by omega)])
  · show R _ _ _ _ 5 _ [_] _ _ _
    refine R_if_eq (tgt := 16) (by decide) dX0_pupil_5 (by decide) (fun _ => ?_) (fun h => absurd h (by decide))
    refine R_bipush dX0_pupil_16 (by decide) ?_
    refine R_iret rfl dX0_pupil_18 ?_
    first
    | (have hb1 : b = 1 := by omega
       subst hb1
       exact hQ _ _ _ (by unfold fpupil; first | rw [if_pos (by omega)] | rw [if_neg (by omega), if_pos (by omega)] | rw [if_neg (by omega), if_neg (by omega), if_pos (by omega)] | rw [if_neg (by omega), if_neg (by omega), if_neg (by omega)] | rw [if_neg (by omega), if_neg (by omega)] | rw [if_neg (by omega)]) (by unfold tpupil; first | rw [if_pos (by omega)] | rw [if_neg (by omega), if_pos (by omega)] | rw [if_neg (by omega), if_neg (by omega), if_pos (by omega)] | rw [if_neg (by omega), if_neg (by omega), if_neg (by omega)] | rw [if_neg (by omega), if_neg (by omega)] | rw [if_neg (by omega)]))
    | (have hb0 : b = 0 := by omega
       subst hb0
       exact hQ _ _ _ (by unfold fpupil; first | rw [if_pos (by omega)] | rw [if_neg (by omega), if_pos (by omega)] | rw [if_neg (by omega), if_neg (by omega), if_pos (by omega)] | rw [if_neg (by omega), if_neg (by omega), if_neg (by omega)] | rw [if_neg (by omega), if_neg (by omega)] | rw [if_neg (by omega)]) (by unfold tpupil; first | rw [if_pos (by omega)] | rw [if_neg (by omega), if_pos (by omega)] | rw [if_neg (by omega), if_neg (by omega), if_pos (by omega)] | rw [if_neg (by omega), if_neg (by omega), if_neg (by omega)] | rw [if_neg (by omega), if_neg (by omega)] | rw [if_neg (by omega)]))
    | exact hQ _ _ _ (by unfold fpupil; first | rw [if_pos (by omega)] | rw [if_neg (by omega), if_pos (by omega)] | rw [if_neg (by omega), if_neg (by omega), if_pos (by omega)] | rw [if_neg (by omega), if_neg (by omega), if_neg (by omega)] | rw [if_neg (by omega), if_neg (by omega)] | rw [if_neg (by omega)]) (by unfold tpupil; first | rw [if_pos (by omega)] | rw [if_neg (by omega), if_pos (by omega)] | rw [if_neg (by omega), if_neg (by omega), if_pos (by omega)] | rw [if_neg (by omega), if_neg (by omega), if_neg (by omega)] | rw [if_neg (by omega), if_neg (by omega)] | rw [if_neg (by omega)])

def frule (τ : Sf) (w v : Int) : Int := if w < 0 ∨ 1 < w then -101 else if (w = 0 ∧ (v < 0 ∨ 2 < v)) ∨ (w = 1 ∧ (v < 1 ∨ 50 < v)) then -102 else τ 4 w
def trule (τ : Sf) (w v : Int) : Sf := if w < 0 ∨ 1 < w then τ else if (w = 0 ∧ (v < 0 ∨ 2 < v)) ∨ (w = 1 ∧ (v < 1 ∨ 50 < v)) then τ else up τ 4 w v
set_option maxHeartbeats 4000000 in
set_option maxRecDepth 100000 in
theorem c_X0_rule {E : Ev} {d : Nat} {τ ζ : Sf} {Q : Option Value → Sf → Sf → Prop} {w v : Int} (hI : InvX τ) (hrg : (-2147483648 ≤ w ∧ w < 2147483648) ∧ (-2147483648 ≤ v ∧ v < 2147483648)) (hQ : ∀ (z : Int) (τ' ζ' : Sf), z = frule τ w v → τ' = trule τ w v → Q (some (.int (zI z))) τ' ζ') : C E GX kX0_rule (d + 1) [.ref (eAd E 0), .int (zI w), .int (zI v)] τ ζ Q := by
  refine C_of (by decide) rfl rfl ?_
  show R E GX kX0_rule (d + 1) 0 [some (.ref (eAd E 0)), some (.int (zI w)), some (.int (zI v)), none] [] τ ζ Q
  obtain ⟨hn, hm, hmk, hys, hpu, hcu, hpl, hwe, hpr, hmi, hwo, hco, hch⟩ := id hI
  refine R_iload_n dX0_rule_0 rfl ?_
  refine R_iconst dX0_rule_1 ?_
  refine R_iconst dX0_rule_2 ?_
  refine R_callS3 (k2 := kX0_isWithin) dX0_rule_3 rfl gX0_rule_X0_isWithin kkX0_isWithin (Nat.le_of_ble_eq_true rfl) (c_X0_isWithin (by omega) (fun b3 => ?_) (fun b3 => ?_))
  · show R _ _ _ _ 6 _ [_] _ _ _
    refine R_if_ne (tgt := 12) (by decide) dX0_rule_6 (by decide) (fun _ => ?_) (fun h => absurd h (by decide))
    refine R_iload_n dX0_rule_12 rfl ?_
    refine R_if_ne (tgt := 25) (by omega) dX0_rule_13 (by decide) (fun c13 => ?_) (fun c13 => ?_)
    · refine R_iload_n dX0_rule_25 rfl ?_
      refine R_iconst dX0_rule_26 ?_
      refine R_bipush dX0_rule_27 (by decide) ?_
      refine R_callS3 (k2 := kX0_isWithin) dX0_rule_29 rfl gX0_rule_X0_isWithin kkX0_isWithin (Nat.le_of_ble_eq_true rfl) (c_X0_isWithin (by omega) (fun b29 => ?_) (fun b29 => ?_))
      · show R _ _ _ _ 32 _ [_] _ _ _
        refine R_istore_n dX0_rule_32 rfl rfl ?_
        refine R_iload_n dX0_rule_33 rfl ?_
        refine R_if_ne (tgt := 40) (by decide) dX0_rule_34 (by decide) (fun _ => ?_) (fun h => absurd h (by decide))
        refine R_aload_n dX0_rule_40 rfl ?_
        refine R_getR fX0_rule_26 dX0_rule_41 ?_
        refine R_iload_n dX0_rule_44 rfl ?_
        refine R_iload_n dX0_rule_45 rfl ?_
        refine R_callS3 (k2 := kX0_replace) dX0_rule_46 rfl gX0_rule_X0_replace kkX0_replace (Nat.le_of_ble_eq_true rfl) (c_X0_replace rfl rfl rfl (by omega) ?_)
        show R _ _ _ _ 49 _ [_] _ _ _
        refine R_iret rfl dX0_rule_49 ?_
        exact hQ _ _ _ (by unfold frule; first | rw [if_pos (by omega)] | rw [if_neg (by omega), if_pos (by omega)] | rw [if_neg (by omega), if_neg (by omega), if_pos (by omega)] | rw [if_neg (by omega), if_neg (by omega), if_neg (by omega)] | rw [if_neg (by omega), if_neg (by omega)] | rw [if_neg (by omega)]) (by unfold trule; first | rw [if_pos (by omega)] | rw [if_neg (by omega), if_pos (by omega)] | rw [if_neg (by omega), if_neg (by omega), if_pos (by omega)] | rw [if_neg (by omega), if_neg (by omega), if_neg (by omega)] | rw [if_neg (by omega), if_neg (by omega)] | rw [if_neg (by omega)])
      · show R _ _ _ _ 32 _ [_] _ _ _
        refine R_istore_n dX0_rule_32 rfl rfl ?_
        refine R_iload_n dX0_rule_33 rfl ?_
        refine R_if_ne (tgt := 40) (by decide) dX0_rule_34 (by decide) (fun h => absurd h (by decide)) (fun _ => ?_)
        refine R_bipush dX0_rule_37 (by decide) ?_
        refine R_iret rfl dX0_rule_39 ?_
        exact hQ _ _ _ (by unfold frule; first | rw [if_pos (by omega)] | rw [if_neg (by omega), if_pos (by omega)] | rw [if_neg (by omega), if_neg (by omega), if_pos (by omega)] | rw [if_neg (by omega), if_neg (by omega), if_neg (by omega)] | rw [if_neg (by omega), if_neg (by omega)] | rw [if_neg (by omega)]) (by unfold trule; first | rw [if_pos (by omega)] | rw [if_neg (by omega), if_pos (by omega)] | rw [if_neg (by omega), if_neg (by omega), if_pos (by omega)] | rw [if_neg (by omega), if_neg (by omega), if_neg (by omega)] | rw [if_neg (by omega), if_neg (by omega)] | rw [if_neg (by omega)])
    · refine R_iload_n dX0_rule_16 rfl ?_
      refine R_iconst dX0_rule_17 ?_
      refine R_iconst dX0_rule_18 ?_
      refine R_callS3 (k2 := kX0_isWithin) dX0_rule_19 rfl gX0_rule_X0_isWithin kkX0_isWithin (Nat.le_of_ble_eq_true rfl) (c_X0_isWithin (by omega) (fun b19 => ?_) (fun b19 => ?_))
      · show R _ _ _ _ 22 _ [_] _ _ _
        refine R_goto (tgt := 32) dX0_rule_22 (by decide) ?_
        refine R_istore_n dX0_rule_32 rfl rfl ?_
        refine R_iload_n dX0_rule_33 rfl ?_
        refine R_if_ne (tgt := 40) (by decide) dX0_rule_34 (by decide) (fun _ => ?_) (fun h => absurd h (by decide))
        refine R_aload_n dX0_rule_40 rfl ?_
        refine R_getR fX0_rule_26 dX0_rule_41 ?_
        refine R_iload_n dX0_rule_44 rfl ?_
        refine R_iload_n dX0_rule_45 rfl ?_
        refine R_callS3 (k2 := kX0_replace) dX0_rule_46 rfl gX0_rule_X0_replace kkX0_replace (Nat.le_of_ble_eq_true rfl) (c_X0_replace rfl rfl rfl (by omega) ?_)
        show R _ _ _ _ 49 _ [_] _ _ _
        refine R_iret rfl dX0_rule_49 ?_
        exact hQ _ _ _ (by unfold frule; first | rw [if_pos (by omega)] | rw [if_neg (by omega), if_pos (by omega)] | rw [if_neg (by omega), if_neg (by omega), if_pos (by omega)] | rw [if_neg (by omega), if_neg (by omega), if_neg (by omega)] | rw [if_neg (by omega), if_neg (by omega)] | rw [if_neg (by omega)]) (by unfold trule; first | rw [if_pos (by omega)] | rw [if_neg (by omega), if_pos (by omega)] | rw [if_neg (by omega), if_neg (by omega), if_pos (by omega)] | rw [if_neg (by omega), if_neg (by omega), if_neg (by omega)] | rw [if_neg (by omega), if_neg (by omega)] | rw [if_neg (by omega)])
      · show R _ _ _ _ 22 _ [_] _ _ _
        refine R_goto (tgt := 32) dX0_rule_22 (by decide) ?_
        refine R_istore_n dX0_rule_32 rfl rfl ?_
        refine R_iload_n dX0_rule_33 rfl ?_
        refine R_if_ne (tgt := 40) (by decide) dX0_rule_34 (by decide) (fun h => absurd h (by decide)) (fun _ => ?_)
        refine R_bipush dX0_rule_37 (by decide) ?_
        refine R_iret rfl dX0_rule_39 ?_
        exact hQ _ _ _ (by unfold frule; first | rw [if_pos (by omega)] | rw [if_neg (by omega), if_pos (by omega)] | rw [if_neg (by omega), if_neg (by omega), if_pos (by omega)] | rw [if_neg (by omega), if_neg (by omega), if_neg (by omega)] | rw [if_neg (by omega), if_neg (by omega)] | rw [if_neg (by omega)]) (by unfold trule; first | rw [if_pos (by omega)] | rw [if_neg (by omega), if_pos (by omega)] | rw [if_neg (by omega), if_neg (by omega), if_pos (by omega)] | rw [if_neg (by omega), if_neg (by omega), if_neg (by omega)] | rw [if_neg (by omega), if_neg (by omega)] | rw [if_neg (by omega)])
  · show R _ _ _ _ 6 _ [_] _ _ _
    refine R_if_ne (tgt := 12) (by decide) dX0_rule_6 (by decide) (fun h => absurd h (by decide)) (fun _ => ?_)
    refine R_bipush dX0_rule_9 (by decide) ?_
    refine R_iret rfl dX0_rule_11 ?_
    exact hQ _ _ _ (by unfold frule; first | rw [if_pos (by omega)] | rw [if_neg (by omega), if_pos (by omega)] | rw [if_neg (by omega), if_neg (by omega), if_pos (by omega)] | rw [if_neg (by omega), if_neg (by omega), if_neg (by omega)] | rw [if_neg (by omega), if_neg (by omega)] | rw [if_neg (by omega)]) (by unfold trule; first | rw [if_pos (by omega)] | rw [if_neg (by omega), if_pos (by omega)] | rw [if_neg (by omega), if_neg (by omega), if_pos (by omega)] | rw [if_neg (by omega), if_neg (by omega), if_neg (by omega)] | rw [if_neg (by omega), if_neg (by omega)] | rw [if_neg (by omega)])

def fweight (τ : Sf) (r v : Int) : Int := if r < 0 ∨ 2 < r then -101 else if v < 0 ∨ 10 < v then -102 else τ 5 r
def tweight (τ : Sf) (r v : Int) : Sf := if r < 0 ∨ 2 < r then τ else if v < 0 ∨ 10 < v then τ else up τ 5 r v
set_option maxHeartbeats 4000000 in
set_option maxRecDepth 100000 in
theorem c_X0_weight {E : Ev} {d : Nat} {τ ζ : Sf} {Q : Option Value → Sf → Sf → Prop} {r v : Int} (hI : InvX τ) (hrg : (-2147483648 ≤ r ∧ r < 2147483648) ∧ (-2147483648 ≤ v ∧ v < 2147483648)) (hQ : ∀ (z : Int) (τ' ζ' : Sf), z = fweight τ r v → τ' = tweight τ r v → Q (some (.int (zI z))) τ' ζ') : C E GX kX0_weight (d + 2) [.ref (eAd E 0), .int (zI r), .int (zI v)] τ ζ Q := by
  refine C_of (by decide) rfl rfl ?_
  show R E GX kX0_weight (d + 2) 0 [some (.ref (eAd E 0)), some (.int (zI r)), some (.int (zI v))] [] τ ζ Q
  obtain ⟨hn, hm, hmk, hys, hpu, hcu, hpl, hwe, hpr, hmi, hwo, hco, hch⟩ := id hI
  refine R_iload_n dX0_weight_0 rfl ?_
  refine R_callS1 (k2 := kX0_isRound) dX0_weight_1 rfl gX0_weight_X0_isRound kkX0_isRound (Nat.le_of_ble_eq_true rfl) (c_X0_isRound (by omega) (fun b1 => ?_) (fun b1 => ?_))
  · show R _ _ _ _ 4 _ [_] _ _ _
    refine R_if_ne (tgt := 10) (by decide) dX0_weight_4 (by decide) (fun _ => ?_) (fun h => absurd h (by decide))
    refine R_iload_n dX0_weight_10 rfl ?_
    refine R_iconst dX0_weight_11 ?_
    refine R_bipush dX0_weight_12 (by decide) ?_
    refine R_callS3 (k2 := kX0_isWithin) dX0_weight_14 rfl gX0_weight_X0_isWithin kkX0_isWithin (Nat.le_of_ble_eq_true rfl) (c_X0_isWithin (by omega) (fun b14 => ?_) (fun b14 => ?_))
    · show R _ _ _ _ 17 _ [_] _ _ _
      refine R_if_ne (tgt := 23) (by decide) dX0_weight_17 (by decide) (fun _ => ?_) (fun h => absurd h (by decide))
      refine R_aload_n dX0_weight_23 rfl ?_
      refine R_getR fX0_weight_29 dX0_weight_24 ?_
      refine R_iload_n dX0_weight_27 rfl ?_
      refine R_iload_n dX0_weight_28 rfl ?_
      refine R_callS3 (k2 := kX0_replace) dX0_weight_29 rfl gX0_weight_X0_replace kkX0_replace (Nat.le_of_ble_eq_true rfl) (c_X0_replace rfl rfl rfl (by omega) ?_)
      show R _ _ _ _ 32 _ [_] _ _ _
      refine R_iret rfl dX0_weight_32 ?_
      exact hQ _ _ _ (by unfold fweight; first | rw [if_pos (by omega)] | rw [if_neg (by omega), if_pos (by omega)] | rw [if_neg (by omega), if_neg (by omega), if_pos (by omega)] | rw [if_neg (by omega), if_neg (by omega), if_neg (by omega)] | rw [if_neg (by omega), if_neg (by omega)] | rw [if_neg (by omega)]) (by unfold tweight; first | rw [if_pos (by omega)] | rw [if_neg (by omega), if_pos (by omega)] | rw [if_neg (by omega), if_neg (by omega), if_pos (by omega)] | rw [if_neg (by omega), if_neg (by omega), if_neg (by omega)] | rw [if_neg (by omega), if_neg (by omega)] | rw [if_neg (by omega)])
    · show R _ _ _ _ 17 _ [_] _ _ _
      refine R_if_ne (tgt := 23) (by decide) dX0_weight_17 (by decide) (fun h => absurd h (by decide)) (fun _ => ?_)
      refine R_bipush dX0_weight_20 (by decide) ?_
      refine R_iret rfl dX0_weight_22 ?_
      exact hQ _ _ _ (by unfold fweight; first | rw [if_pos (by omega)] | rw [if_neg (by omega), if_pos (by omega)] | rw [if_neg (by omega), if_neg (by omega), if_pos (by omega)] | rw [if_neg (by omega), if_neg (by omega), if_neg (by omega)] | rw [if_neg (by omega), if_neg (by omega)] | rw [if_neg (by omega)]) (by unfold tweight; first | rw [if_pos (by omega)] | rw [if_neg (by omega), if_pos (by omega)] | rw [if_neg (by omega), if_neg (by omega), if_pos (by omega)] | rw [if_neg (by omega), if_neg (by omega), if_neg (by omega)] | rw [if_neg (by omega), if_neg (by omega)] | rw [if_neg (by omega)])
  · show R _ _ _ _ 4 _ [_] _ _ _
    refine R_if_ne (tgt := 10) (by decide) dX0_weight_4 (by decide) (fun h => absurd h (by decide)) (fun _ => ?_)
    refine R_bipush dX0_weight_7 (by decide) ?_
    refine R_iret rfl dX0_weight_9 ?_
    exact hQ _ _ _ (by unfold fweight; first | rw [if_pos (by omega)] | rw [if_neg (by omega), if_pos (by omega)] | rw [if_neg (by omega), if_neg (by omega), if_pos (by omega)] | rw [if_neg (by omega), if_neg (by omega), if_neg (by omega)] | rw [if_neg (by omega), if_neg (by omega)] | rw [if_neg (by omega)]) (by unfold tweight; first | rw [if_pos (by omega)] | rw [if_neg (by omega), if_pos (by omega)] | rw [if_neg (by omega), if_neg (by omega), if_pos (by omega)] | rw [if_neg (by omega), if_neg (by omega), if_neg (by omega)] | rw [if_neg (by omega), if_neg (by omega)] | rw [if_neg (by omega)])

def fprize (τ : Sf) (i v : Int) : Int := if i < 0 ∨ 5 < i then -101 else if v < 0 ∨ 1000000 < v then -102 else τ 6 i
def tprize (τ : Sf) (i v : Int) : Sf := if i < 0 ∨ 5 < i then τ else if v < 0 ∨ 1000000 < v then τ else up τ 6 i v
set_option maxHeartbeats 4000000 in
set_option maxRecDepth 100000 in
theorem c_X0_prize {E : Ev} {d : Nat} {τ ζ : Sf} {Q : Option Value → Sf → Sf → Prop} {i v : Int} (hI : InvX τ) (hrg : (-2147483648 ≤ i ∧ i < 2147483648) ∧ (-2147483648 ≤ v ∧ v < 2147483648)) (hQ : ∀ (z : Int) (τ' ζ' : Sf), z = fprize τ i v → τ' = tprize τ i v → Q (some (.int (zI z))) τ' ζ') : C E GX kX0_prize (d + 1) [.ref (eAd E 0), .int (zI i), .int (zI v)] τ ζ Q := by
  refine C_of (by decide) rfl rfl ?_
  show R E GX kX0_prize (d + 1) 0 [some (.ref (eAd E 0)), some (.int (zI i)), some (.int (zI v))] [] τ ζ Q
  obtain ⟨hn, hm, hmk, hys, hpu, hcu, hpl, hwe, hpr, hmi, hwo, hco, hch⟩ := id hI
  refine R_iload_n dX0_prize_0 rfl ?_
  refine R_iconst dX0_prize_1 ?_
  refine R_iconst dX0_prize_2 ?_
  refine R_callS3 (k2 := kX0_isWithin) dX0_prize_3 rfl gX0_prize_X0_isWithin kkX0_isWithin (Nat.le_of_ble_eq_true rfl) (c_X0_isWithin (by omega) (fun b3 => ?_) (fun b3 => ?_))
  · show R _ _ _ _ 6 _ [_] _ _ _
    refine R_if_ne (tgt := 12) (by decide) dX0_prize_6 (by decide) (fun _ => ?_) (fun h => absurd h (by decide))
    refine R_iload_n dX0_prize_12 rfl ?_
    refine R_iconst dX0_prize_13 ?_
    refine R_ldc 1000000 dX0_prize_14 cnX0_prize_141 rfl ?_
    refine R_callS3 (k2 := kX0_isWithin) dX0_prize_16 rfl gX0_prize_X0_isWithin kkX0_isWithin (Nat.le_of_ble_eq_true rfl) (c_X0_isWithin (by omega) (fun b16 => ?_) (fun b16 => ?_))
    · show R _ _ _ _ 19 _ [_] _ _ _
      refine R_if_ne (tgt := 25) (by decide) dX0_prize_19 (by decide) (fun _ => ?_) (fun h => absurd h (by decide))
      refine R_aload_n dX0_prize_25 rfl ?_
      refine R_getR fX0_prize_32 dX0_prize_26 ?_
      refine R_iload_n dX0_prize_29 rfl ?_
      refine R_iload_n dX0_prize_30 rfl ?_
      refine R_callS3 (k2 := kX0_replace) dX0_prize_31 rfl gX0_prize_X0_replace kkX0_replace (Nat.le_of_ble_eq_true rfl) (c_X0_replace rfl rfl rfl (by omega) ?_)
      show R _ _ _ _ 34 _ [_] _ _ _
      refine R_iret rfl dX0_prize_34 ?_
      exact hQ _ _ _ (by unfold fprize; first | rw [if_pos (by omega)] | rw [if_neg (by omega), if_pos (by omega)] | rw [if_neg (by omega), if_neg (by omega), if_pos (by omega)] | rw [if_neg (by omega), if_neg (by omega), if_neg (by omega)] | rw [if_neg (by omega), if_neg (by omega)] | rw [if_neg (by omega)]) (by unfold tprize; first | rw [if_pos (by omega)] | rw [if_neg (by omega), if_pos (by omega)] | rw [if_neg (by omega), if_neg (by omega), if_pos (by omega)] | rw [if_neg (by omega), if_neg (by omega), if_neg (by omega)] | rw [if_neg (by omega), if_neg (by omega)] | rw [if_neg (by omega)])
    · show R _ _ _ _ 19 _ [_] _ _ _
      refine R_if_ne (tgt := 25) (by decide) dX0_prize_19 (by decide) (fun h => absurd h (by decide)) (fun _ => ?_)
      refine R_bipush dX0_prize_22 (by decide) ?_
      refine R_iret rfl dX0_prize_24 ?_
      exact hQ _ _ _ (by unfold fprize; first | rw [if_pos (by omega)] | rw [if_neg (by omega), if_pos (by omega)] | rw [if_neg (by omega), if_neg (by omega), if_pos (by omega)] | rw [if_neg (by omega), if_neg (by omega), if_neg (by omega)] | rw [if_neg (by omega), if_neg (by omega)] | rw [if_neg (by omega)]) (by unfold tprize; first | rw [if_pos (by omega)] | rw [if_neg (by omega), if_pos (by omega)] | rw [if_neg (by omega), if_neg (by omega), if_pos (by omega)] | rw [if_neg (by omega), if_neg (by omega), if_neg (by omega)] | rw [if_neg (by omega), if_neg (by omega)] | rw [if_neg (by omega)])
  · show R _ _ _ _ 6 _ [_] _ _ _
    refine R_if_ne (tgt := 12) (by decide) dX0_prize_6 (by decide) (fun h => absurd h (by decide)) (fun _ => ?_)
    refine R_bipush dX0_prize_9 (by decide) ?_
    refine R_iret rfl dX0_prize_11 ?_
    exact hQ _ _ _ (by unfold fprize; first | rw [if_pos (by omega)] | rw [if_neg (by omega), if_pos (by omega)] | rw [if_neg (by omega), if_neg (by omega), if_pos (by omega)] | rw [if_neg (by omega), if_neg (by omega), if_neg (by omega)] | rw [if_neg (by omega), if_neg (by omega)] | rw [if_neg (by omega)]) (by unfold tprize; first | rw [if_pos (by omega)] | rw [if_neg (by omega), if_pos (by omega)] | rw [if_neg (by omega), if_neg (by omega), if_pos (by omega)] | rw [if_neg (by omega), if_neg (by omega), if_neg (by omega)] | rw [if_neg (by omega), if_neg (by omega)] | rw [if_neg (by omega)])

def fwork (τ : Sf) (w v : Int) : Int := if w < 0 ∨ 11 < w then -101 else if v < 1 ∨ 60 < v then -102 else τ 7 w
def twork (τ : Sf) (w v : Int) : Sf := if w < 0 ∨ 11 < w then τ else if v < 1 ∨ 60 < v then τ else up τ 7 w v
set_option maxHeartbeats 4000000 in
set_option maxRecDepth 100000 in
theorem c_X0_work {E : Ev} {d : Nat} {τ ζ : Sf} {Q : Option Value → Sf → Sf → Prop} {w v : Int} (hI : InvX τ) (hrg : (-2147483648 ≤ w ∧ w < 2147483648) ∧ (-2147483648 ≤ v ∧ v < 2147483648)) (hQ : ∀ (z : Int) (τ' ζ' : Sf), z = fwork τ w v → τ' = twork τ w v → Q (some (.int (zI z))) τ' ζ') : C E GX kX0_work (d + 2) [.ref (eAd E 0), .int (zI w), .int (zI v)] τ ζ Q := by
  refine C_of (by decide) rfl rfl ?_
  show R E GX kX0_work (d + 2) 0 [some (.ref (eAd E 0)), some (.int (zI w)), some (.int (zI v))] [] τ ζ Q
  obtain ⟨hn, hm, hmk, hys, hpu, hcu, hpl, hwe, hpr, hmi, hwo, hco, hch⟩ := id hI
  refine R_iload_n dX0_work_0 rfl ?_
  refine R_callS1 (k2 := kX0_isWork) dX0_work_1 rfl gX0_work_X0_isWork kkX0_isWork (Nat.le_of_ble_eq_true rfl) (c_X0_isWork (by omega) (fun b1 => ?_) (fun b1 => ?_))
  · show R _ _ _ _ 4 _ [_] _ _ _
    refine R_if_ne (tgt := 10) (by decide) dX0_work_4 (by decide) (fun _ => ?_) (fun h => absurd h (by decide))
    refine R_iload_n dX0_work_10 rfl ?_
    refine R_iconst dX0_work_11 ?_
    refine R_bipush dX0_work_12 (by decide) ?_
    refine R_callS3 (k2 := kX0_isWithin) dX0_work_14 rfl gX0_work_X0_isWithin kkX0_isWithin (Nat.le_of_ble_eq_true rfl) (c_X0_isWithin (by omega) (fun b14 => ?_) (fun b14 => ?_))
    · show R _ _ _ _ 17 _ [_] _ _ _
      refine R_if_ne (tgt := 23) (by decide) dX0_work_17 (by decide) (fun _ => ?_) (fun h => absurd h (by decide))
      refine R_aload_n dX0_work_23 rfl ?_
      refine R_getR fX0_work_35 dX0_work_24 ?_
      refine R_iload_n dX0_work_27 rfl ?_
      refine R_iload_n dX0_work_28 rfl ?_
      refine R_callS3 (k2 := kX0_replace) dX0_work_29 rfl gX0_work_X0_replace kkX0_replace (Nat.le_of_ble_eq_true rfl) (c_X0_replace rfl rfl rfl (by omega) ?_)
      show R _ _ _ _ 32 _ [_] _ _ _
      refine R_iret rfl dX0_work_32 ?_
      exact hQ _ _ _ (by unfold fwork; first | rw [if_pos (by omega)] | rw [if_neg (by omega), if_pos (by omega)] | rw [if_neg (by omega), if_neg (by omega), if_pos (by omega)] | rw [if_neg (by omega), if_neg (by omega), if_neg (by omega)] | rw [if_neg (by omega), if_neg (by omega)] | rw [if_neg (by omega)]) (by unfold twork; first | rw [if_pos (by omega)] | rw [if_neg (by omega), if_pos (by omega)] | rw [if_neg (by omega), if_neg (by omega), if_pos (by omega)] | rw [if_neg (by omega), if_neg (by omega), if_neg (by omega)] | rw [if_neg (by omega), if_neg (by omega)] | rw [if_neg (by omega)])
    · show R _ _ _ _ 17 _ [_] _ _ _
      refine R_if_ne (tgt := 23) (by decide) dX0_work_17 (by decide) (fun h => absurd h (by decide)) (fun _ => ?_)
      refine R_bipush dX0_work_20 (by decide) ?_
      refine R_iret rfl dX0_work_22 ?_
      exact hQ _ _ _ (by unfold fwork; first | rw [if_pos (by omega)] | rw [if_neg (by omega), if_pos (by omega)] | rw [if_neg (by omega), if_neg (by omega), if_pos (by omega)] | rw [if_neg (by omega), if_neg (by omega), if_neg (by omega)] | rw [if_neg (by omega), if_neg (by omega)] | rw [if_neg (by omega)]) (by unfold twork; first | rw [if_pos (by omega)] | rw [if_neg (by omega), if_pos (by omega)] | rw [if_neg (by omega), if_neg (by omega), if_pos (by omega)] | rw [if_neg (by omega), if_neg (by omega), if_neg (by omega)] | rw [if_neg (by omega), if_neg (by omega)] | rw [if_neg (by omega)])
  · show R _ _ _ _ 4 _ [_] _ _ _
    refine R_if_ne (tgt := 10) (by decide) dX0_work_4 (by decide) (fun h => absurd h (by decide)) (fun _ => ?_)
    refine R_bipush dX0_work_7 (by decide) ?_
    refine R_iret rfl dX0_work_9 ?_
    exact hQ _ _ _ (by unfold fwork; first | rw [if_pos (by omega)] | rw [if_neg (by omega), if_pos (by omega)] | rw [if_neg (by omega), if_neg (by omega), if_pos (by omega)] | rw [if_neg (by omega), if_neg (by omega), if_neg (by omega)] | rw [if_neg (by omega), if_neg (by omega)] | rw [if_neg (by omega)]) (by unfold twork; first | rw [if_pos (by omega)] | rw [if_neg (by omega), if_pos (by omega)] | rw [if_neg (by omega), if_neg (by omega), if_pos (by omega)] | rw [if_neg (by omega), if_neg (by omega), if_neg (by omega)] | rw [if_neg (by omega), if_neg (by omega)] | rw [if_neg (by omega)])

def fprogramme (τ : Sf) (p v : Int) : Int := if p < 0 ∨ τ 20 0 ≤ p then -101 else if v < 1 ∨ 4095 < v then -102 else if 3 ≤ τ 9 p then -104 else τ 9 p + 1
def tprogramme (τ : Sf) (p v : Int) : Sf := if p < 0 ∨ τ 20 0 ≤ p then τ else if v < 1 ∨ 4095 < v then τ else if 3 ≤ τ 9 p then τ else up (up τ 8 (p * 3 + τ 9 p) v) 9 p (τ 9 p + 1)
set_option maxHeartbeats 4000000 in
set_option maxRecDepth 100000 in
theorem c_X0_programme {E : Ev} {d : Nat} {τ ζ : Sf} {Q : Option Value → Sf → Sf → Prop} {p v : Int} (hI : InvX τ) (hrg : (-2147483648 ≤ p ∧ p < 2147483648) ∧ (-2147483648 ≤ v ∧ v < 2147483648)) (hQ : ∀ (z : Int) (τ' ζ' : Sf), z = fprogramme τ p v → τ' = tprogramme τ p v → Q (some (.int (zI z))) τ' ζ') : C E GX kX0_programme (d + 2) [.ref (eAd E 0), .int (zI p), .int (zI v)] τ ζ Q := by
  refine C_of (by decide) rfl rfl ?_
  show R E GX kX0_programme (d + 2) 0 [some (.ref (eAd E 0)), some (.int (zI p)), some (.int (zI v))] [] τ ζ Q
  obtain ⟨hn, hm, hmk, hys, hpu, hcu, hpl, hwe, hpr, hmi, hwo, hco, hch⟩ := id hI
  refine R_aload_n dX0_programme_0 rfl ?_
  refine R_iload_n dX0_programme_1 rfl ?_
  refine R_callV1 (k2 := kX0_isPlayer) dX0_programme_2 rfl gX0_programme_X0_isPlayer kkX0_isPlayer rfl rfl (Nat.le_of_ble_eq_true rfl) (c_X0_isPlayer hI (by omega) (fun b2 => ?_) (fun b2 => ?_))
  · show R _ _ _ _ 5 _ [_] _ _ _
    refine R_if_ne (tgt := 11) (by decide) dX0_programme_5 (by decide) (fun _ => ?_) (fun h => absurd h (by decide))
    refine R_iload_n dX0_programme_11 rfl ?_
    refine R_iconst dX0_programme_12 ?_
    refine R_sipush dX0_programme_13 (by decide) ?_
    refine R_callS3 (k2 := kX0_isWithin) dX0_programme_16 rfl gX0_programme_X0_isWithin kkX0_isWithin (Nat.le_of_ble_eq_true rfl) (c_X0_isWithin (by omega) (fun b16 => ?_) (fun b16 => ?_))
    · show R _ _ _ _ 19 _ [_] _ _ _
      refine R_if_ne (tgt := 25) (by decide) dX0_programme_19 (by decide) (fun _ => ?_) (fun h => absurd h (by decide))
      have hcp := hco p
      refine R_aload_n dX0_programme_25 rfl ?_
      refine R_getR fX0_programme_41 dX0_programme_26 ?_
      refine R_iload_n dX0_programme_29 rfl ?_
      refine R_iald (q := 9) rfl rfl (by omega) rfl dX0_programme_30 ?_
      refine R_iconst dX0_programme_31 ?_
      refine R_icmp_lt (tgt := 38) (by omega) dX0_programme_32 (by decide) (fun c32 => ?_) (fun c32 => ?_)
      · refine R_aload_n dX0_programme_38 rfl ?_
        refine R_getR fX0_programme_38 dX0_programme_39 ?_
        refine R_iload_n dX0_programme_42 rfl ?_
        refine R_aload_n dX0_programme_43 rfl ?_
        refine R_getR fX0_programme_41 dX0_programme_44 ?_
        refine R_iload_n dX0_programme_47 rfl ?_
        refine R_iald (q := 9) rfl rfl (by omega) rfl dX0_programme_48 ?_
        refine R_callS2 (k2 := kX0_programmeCellOf) dX0_programme_49 rfl gX0_programme_X0_programmeCellOf kkX0_programmeCellOf (Nat.le_of_ble_eq_true rfl) (c_X0_programmeCellOf (fun r49 h49 => ?_))
        subst h49
        show R _ _ _ _ 52 _ [_, _] _ _ _
        refine R_iload_n dX0_programme_52 rfl ?_
        refine R_iast (q := 8) GXok rfl rfl (by omega) rfl dX0_programme_53 ?_
        refine R_aload_n dX0_programme_54 rfl ?_
        refine R_getR fX0_programme_41 dX0_programme_55 ?_
        refine R_iload_n dX0_programme_58 rfl ?_
        refine R_dup2 rfl rfl dX0_programme_59 ?_
        refine R_iald (q := 9) rfl rfl (by omega) rfl dX0_programme_60 ?_
        refine R_iconst dX0_programme_61 ?_
        refine R_iadd dX0_programme_62 ?_
        refine R_iast (q := 9) GXok rfl rfl (by omega) rfl dX0_programme_63 ?_
        refine R_aload_n dX0_programme_64 rfl ?_
        refine R_getR fX0_programme_41 dX0_programme_65 ?_
        refine R_iload_n dX0_programme_68 rfl ?_
        refine R_iald (q := 9) rfl rfl (by omega) rfl dX0_programme_69 ?_
        refine R_iret rfl dX0_programme_70 ?_
        rw [up_at, if_pos rfl, up_ne (by decide)]
        exact hQ _ _ _ (by unfold fprogramme; first | rw [if_pos (by omega)] | rw [if_neg (by omega), if_pos (by omega)] | rw [if_neg (by omega), if_neg (by omega), if_pos (by omega)] | rw [if_neg (by omega), if_neg (by omega), if_neg (by omega)] | rw [if_neg (by omega), if_neg (by omega)] | rw [if_neg (by omega)]) (by unfold tprogramme; first | rw [if_pos (by omega)] | rw [if_neg (by omega), if_pos (by omega)] | rw [if_neg (by omega), if_neg (by omega), if_pos (by omega)] | rw [if_neg (by omega), if_neg (by omega), if_neg (by omega)] | rw [if_neg (by omega), if_neg (by omega)] | rw [if_neg (by omega)])
      · refine R_bipush dX0_programme_35 (by decide) ?_
        refine R_iret rfl dX0_programme_37 ?_
        exact hQ _ _ _ (by unfold fprogramme; first | rw [if_pos (by omega)] | rw [if_neg (by omega), if_pos (by omega)] | rw [if_neg (by omega), if_neg (by omega), if_pos (by omega)] | rw [if_neg (by omega), if_neg (by omega), if_neg (by omega)] | rw [if_neg (by omega), if_neg (by omega)] | rw [if_neg (by omega)]) (by unfold tprogramme; first | rw [if_pos (by omega)] | rw [if_neg (by omega), if_pos (by omega)] | rw [if_neg (by omega), if_neg (by omega), if_pos (by omega)] | rw [if_neg (by omega), if_neg (by omega), if_neg (by omega)] | rw [if_neg (by omega), if_neg (by omega)] | rw [if_neg (by omega)])
    · show R _ _ _ _ 19 _ [_] _ _ _
      refine R_if_ne (tgt := 25) (by decide) dX0_programme_19 (by decide) (fun h => absurd h (by decide)) (fun _ => ?_)
      refine R_bipush dX0_programme_22 (by decide) ?_
      refine R_iret rfl dX0_programme_24 ?_
      exact hQ _ _ _ (by unfold fprogramme; first | rw [if_pos (by omega)] | rw [if_neg (by omega), if_pos (by omega)] | rw [if_neg (by omega), if_neg (by omega), if_pos (by omega)] | rw [if_neg (by omega), if_neg (by omega), if_neg (by omega)] | rw [if_neg (by omega), if_neg (by omega)] | rw [if_neg (by omega)]) (by unfold tprogramme; first | rw [if_pos (by omega)] | rw [if_neg (by omega), if_pos (by omega)] | rw [if_neg (by omega), if_neg (by omega), if_pos (by omega)] | rw [if_neg (by omega), if_neg (by omega), if_neg (by omega)] | rw [if_neg (by omega), if_neg (by omega)] | rw [if_neg (by omega)])
  · show R _ _ _ _ 5 _ [_] _ _ _
    refine R_if_ne (tgt := 11) (by decide) dX0_programme_5 (by decide) (fun h => absurd h (by decide)) (fun _ => ?_)
    refine R_bipush dX0_programme_8 (by decide) ?_
    refine R_iret rfl dX0_programme_10 ?_
    exact hQ _ _ _ (by unfold fprogramme; first | rw [if_pos (by omega)] | rw [if_neg (by omega), if_pos (by omega)] | rw [if_neg (by omega), if_neg (by omega), if_pos (by omega)] | rw [if_neg (by omega), if_neg (by omega), if_neg (by omega)] | rw [if_neg (by omega), if_neg (by omega)] | rw [if_neg (by omega)]) (by unfold tprogramme; first | rw [if_pos (by omega)] | rw [if_neg (by omega), if_pos (by omega)] | rw [if_neg (by omega), if_neg (by omega), if_pos (by omega)] | rw [if_neg (by omega), if_neg (by omega), if_neg (by omega)] | rw [if_neg (by omega), if_neg (by omega)] | rw [if_neg (by omega)])

def fscore (τ : Sf) (r w p : Int) : Int := if r < 0 ∨ 2 < r ∨ p < 0 ∨ τ 20 0 ≤ p then -101 else if w < 0 ∨ 5 < w then -102 else scX τ r w p
set_option maxHeartbeats 4000000 in
set_option maxRecDepth 100000 in
theorem c_X0_score {E : Ev} {d : Nat} {τ ζ : Sf} {Q : Option Value → Sf → Sf → Prop} {r w p : Int} (hI : InvX τ) (hrg : (-2147483648 ≤ r ∧ r < 2147483648) ∧ (-2147483648 ≤ w ∧ w < 2147483648) ∧ (-2147483648 ≤ p ∧ p < 2147483648)) (hQ : ∀ (z : Int) (ζ' : Sf), z = fscore τ r w p → Q (some (.int (zI z))) τ ζ') : C E GX kX0_score (d + 6) [.ref (eAd E 0), .int (zI r), .int (zI w), .int (zI p)] τ ζ Q := by
  refine C_of (by decide) rfl rfl ?_
  show R E GX kX0_score (d + 6) 0 [some (.ref (eAd E 0)), some (.int (zI r)), some (.int (zI w)), some (.int (zI p))] [] τ ζ Q
  obtain ⟨hn, hm, hmk, hys, hpu, hcu, hpl, hwe, hpr, hmi, hwo, hco, hch⟩ := id hI
  refine R_iload_n dX0_score_0 rfl ?_
  refine R_callS1 (k2 := kX0_isRound) dX0_score_1 rfl gX0_score_X0_isRound kkX0_isRound (Nat.le_of_ble_eq_true rfl) (c_X0_isRound (by omega) (fun b1 => ?_) (fun b1 => ?_))
  · show R _ _ _ _ 4 _ [_] _ _ _
    refine R_if_eq (tgt := 15) (by decide) dX0_score_4 (by decide) (fun h => absurd h (by decide)) (fun _ => ?_)
    refine R_aload_n dX0_score_7 rfl ?_
    refine R_iload_n dX0_score_8 rfl ?_
    refine R_callV1 (k2 := kX0_isPlayer) dX0_score_9 rfl gX0_score_X0_isPlayer kkX0_isPlayer rfl rfl (Nat.le_of_ble_eq_true rfl) (c_X0_isPlayer hI (by omega) (fun b9 => ?_) (fun b9 => ?_))
    · show R _ _ _ _ 12 _ [_] _ _ _
      refine R_if_ne (tgt := 18) (by decide) dX0_score_12 (by decide) (fun _ => ?_) (fun h => absurd h (by decide))
      refine R_iload_n dX0_score_18 rfl ?_
      refine R_callS1 (k2 := kX0_isWay) dX0_score_19 rfl gX0_score_X0_isWay kkX0_isWay (Nat.le_of_ble_eq_true rfl) (c_X0_isWay (by omega) (fun b19 => ?_) (fun b19 => ?_))
      · show R _ _ _ _ 22 _ [_] _ _ _
        refine R_if_ne (tgt := 28) (by decide) dX0_score_22 (by decide) (fun _ => ?_) (fun h => absurd h (by decide))
        refine R_aload_n dX0_score_28 rfl ?_
        refine R_iload_n dX0_score_29 rfl ?_
        refine R_iload_n dX0_score_30 rfl ?_
        refine R_iload_n dX0_score_31 rfl ?_
        refine R_callV3 (k2 := kX0_scoreOf) dX0_score_32 rfl gX0_score_X0_scoreOf kkX0_scoreOf rfl rfl (Nat.le_of_ble_eq_true rfl) (c_X0_scoreOf hI (by omega) (by omega) (by omega) (fun r32 ζ32 h32 hK32 => ?_))
        subst h32
        show R _ _ _ _ 35 _ [_] _ _ _
        refine R_iret rfl dX0_score_35 ?_
        exact hQ _ _ (by unfold fscore; first | rw [if_pos (by omega)] | rw [if_neg (by omega), if_pos (by omega)] | rw [if_neg (by omega), if_neg (by omega), if_pos (by omega)] | rw [if_neg (by omega), if_neg (by omega), if_neg (by omega)] | rw [if_neg (by omega), if_neg (by omega)] | rw [if_neg (by omega)])
      · show R _ _ _ _ 22 _ [_] _ _ _
        refine R_if_ne (tgt := 28) (by decide) dX0_score_22 (by decide) (fun h => absurd h (by decide)) (fun _ => ?_)
        refine R_bipush dX0_score_25 (by decide) ?_
        refine R_iret rfl dX0_score_27 ?_
        exact hQ _ _ (by unfold fscore; first | rw [if_pos (by omega)] | rw [if_neg (by omega), if_pos (by omega)] | rw [if_neg (by omega), if_neg (by omega), if_pos (by omega)] | rw [if_neg (by omega), if_neg (by omega), if_neg (by omega)] | rw [if_neg (by omega), if_neg (by omega)] | rw [if_neg (by omega)])
    · show R _ _ _ _ 12 _ [_] _ _ _
      refine R_if_ne (tgt := 18) (by decide) dX0_score_12 (by decide) (fun h => absurd h (by decide)) (fun _ => ?_)
      refine R_bipush dX0_score_15 (by decide) ?_
      refine R_iret rfl dX0_score_17 ?_
      exact hQ _ _ (by unfold fscore; first | rw [if_pos (by omega)] | rw [if_neg (by omega), if_pos (by omega)] | rw [if_neg (by omega), if_neg (by omega), if_pos (by omega)] | rw [if_neg (by omega), if_neg (by omega), if_neg (by omega)] | rw [if_neg (by omega), if_neg (by omega)] | rw [if_neg (by omega)])
  · show R _ _ _ _ 4 _ [_] _ _ _
    refine R_if_eq (tgt := 15) (by decide) dX0_score_4 (by decide) (fun _ => ?_) (fun h => absurd h (by decide))
    refine R_bipush dX0_score_15 (by decide) ?_
    refine R_iret rfl dX0_score_17 ?_
    exact hQ _ _ (by unfold fscore; first | rw [if_pos (by omega)] | rw [if_neg (by omega), if_pos (by omega)] | rw [if_neg (by omega), if_neg (by omega), if_pos (by omega)] | rw [if_neg (by omega), if_neg (by omega), if_neg (by omega)] | rw [if_neg (by omega), if_neg (by omega)] | rw [if_neg (by omega)])

def fbeats (τ : Sf) (r p q : Int) : Int := if r < 0 ∨ 2 < r ∨ p < 0 ∨ τ 20 0 ≤ p ∨ q < 0 ∨ τ 20 0 ≤ q then -101 else dl (VV τ r p) (VV τ r q) (τ 21 0)
set_option maxHeartbeats 4000000 in
set_option maxRecDepth 100000 in
theorem c_X0_beats {E : Ev} {d : Nat} {τ ζ : Sf} {Q : Option Value → Sf → Sf → Prop} {r p q : Int} (hI : InvX τ) (hrg : (-2147483648 ≤ r ∧ r < 2147483648) ∧ (-2147483648 ≤ p ∧ p < 2147483648) ∧ (-2147483648 ≤ q ∧ q < 2147483648)) (hQ : ∀ (z : Int) (ζ' : Sf), z = fbeats τ r p q → Q (some (.int (zI z))) τ ζ') : C E GX kX0_beats (d + 4) [.ref (eAd E 0), .int (zI r), .int (zI p), .int (zI q)] τ ζ Q := by
  refine C_of (by decide) rfl rfl ?_
  show R E GX kX0_beats (d + 4) 0 [some (.ref (eAd E 0)), some (.int (zI r)), some (.int (zI p)), some (.int (zI q))] [] τ ζ Q
  obtain ⟨hn, hm, hmk, hys, hpu, hcu, hpl, hwe, hpr, hmi, hwo, hco, hch⟩ := id hI
  refine R_iload_n dX0_beats_0 rfl ?_
  refine R_callS1 (k2 := kX0_isRound) dX0_beats_1 rfl gX0_beats_X0_isRound kkX0_isRound (Nat.le_of_ble_eq_true rfl) (c_X0_isRound (by omega) (fun b1 => ?_) (fun b1 => ?_))
  · show R _ _ _ _ 4 _ [_] _ _ _
    refine R_if_eq (tgt := 23) (by decide) dX0_beats_4 (by decide) (fun h => absurd h (by decide)) (fun _ => ?_)
    refine R_aload_n dX0_beats_7 rfl ?_
    refine R_iload_n dX0_beats_8 rfl ?_
    refine R_callV1 (k2 := kX0_isPlayer) dX0_beats_9 rfl gX0_beats_X0_isPlayer kkX0_isPlayer rfl rfl (Nat.le_of_ble_eq_true rfl) (c_X0_isPlayer hI (by omega) (fun b9 => ?_) (fun b9 => ?_))
    · show R _ _ _ _ 12 _ [_] _ _ _
      refine R_if_eq (tgt := 23) (by decide) dX0_beats_12 (by decide) (fun h => absurd h (by decide)) (fun _ => ?_)
      refine R_aload_n dX0_beats_15 rfl ?_
      refine R_iload_n dX0_beats_16 rfl ?_
      refine R_callV1 (k2 := kX0_isPlayer) dX0_beats_17 rfl gX0_beats_X0_isPlayer kkX0_isPlayer rfl rfl (Nat.le_of_ble_eq_true rfl) (c_X0_isPlayer hI (by omega) (fun b17 => ?_) (fun b17 => ?_))
      · show R _ _ _ _ 20 _ [_] _ _ _
        refine R_if_ne (tgt := 26) (by decide) dX0_beats_20 (by decide) (fun _ => ?_) (fun h => absurd h (by decide))
        refine R_aload_n dX0_beats_26 rfl ?_
        refine R_iload_n dX0_beats_27 rfl ?_
        refine R_iload_n dX0_beats_28 rfl ?_
        refine R_iload_n dX0_beats_29 rfl ?_
        refine R_callV3 (k2 := kX0_duel) dX0_beats_30 rfl gX0_beats_X0_duel kkX0_duel rfl rfl (Nat.le_of_ble_eq_true rfl) (c_X0_duel hI (by omega) (by omega) (by omega) (fun r30 h30 => ?_))
        subst h30
        show R _ _ _ _ 33 _ [_] _ _ _
        refine R_iret rfl dX0_beats_33 ?_
        exact hQ _ _ (by unfold fbeats; first | rw [if_pos (by omega)] | rw [if_neg (by omega), if_pos (by omega)] | rw [if_neg (by omega), if_neg (by omega), if_pos (by omega)] | rw [if_neg (by omega), if_neg (by omega), if_neg (by omega)] | rw [if_neg (by omega), if_neg (by omega)] | rw [if_neg (by omega)])
      · show R _ _ _ _ 20 _ [_] _ _ _
        refine R_if_ne (tgt := 26) (by decide) dX0_beats_20 (by decide) (fun h => absurd h (by decide)) (fun _ => ?_)
        refine R_bipush dX0_beats_23 (by decide) ?_
        refine R_iret rfl dX0_beats_25 ?_
        exact hQ _ _ (by unfold fbeats; first | rw [if_pos (by omega)] | rw [if_neg (by omega), if_pos (by omega)] | rw [if_neg (by omega), if_neg (by omega), if_pos (by omega)] | rw [if_neg (by omega), if_neg (by omega), if_neg (by omega)] | rw [if_neg (by omega), if_neg (by omega)] | rw [if_neg (by omega)])
    · show R _ _ _ _ 12 _ [_] _ _ _
      refine R_if_eq (tgt := 23) (by decide) dX0_beats_12 (by decide) (fun _ => ?_) (fun h => absurd h (by decide))
      refine R_bipush dX0_beats_23 (by decide) ?_
      refine R_iret rfl dX0_beats_25 ?_
      exact hQ _ _ (by unfold fbeats; first | rw [if_pos (by omega)] | rw [if_neg (by omega), if_pos (by omega)] | rw [if_neg (by omega), if_neg (by omega), if_pos (by omega)] | rw [if_neg (by omega), if_neg (by omega), if_neg (by omega)] | rw [if_neg (by omega), if_neg (by omega)] | rw [if_neg (by omega)])
  · show R _ _ _ _ 4 _ [_] _ _ _
    refine R_if_eq (tgt := 23) (by decide) dX0_beats_4 (by decide) (fun _ => ?_) (fun h => absurd h (by decide))
    refine R_bipush dX0_beats_23 (by decide) ?_
    refine R_iret rfl dX0_beats_25 ?_
    exact hQ _ _ (by unfold fbeats; first | rw [if_pos (by omega)] | rw [if_neg (by omega), if_pos (by omega)] | rw [if_neg (by omega), if_neg (by omega), if_pos (by omega)] | rw [if_neg (by omega), if_neg (by omega), if_neg (by omega)] | rw [if_neg (by omega), if_neg (by omega)] | rw [if_neg (by omega)])

def fplace (τ : Sf) (r w p : Int) : Int := if r < 0 ∨ 2 < r ∨ p < 0 ∨ τ 20 0 ≤ p then -101 else if w < 0 ∨ 5 < w then -102 else plc (scX τ r w) (τ 20 0) p
set_option maxHeartbeats 4000000 in
set_option maxRecDepth 100000 in
theorem c_X0_place {E : Ev} {d : Nat} {τ ζ : Sf} {Q : Option Value → Sf → Sf → Prop} {r w p : Int} (hI : InvX τ) (hrg : (-2147483648 ≤ r ∧ r < 2147483648) ∧ (-2147483648 ≤ w ∧ w < 2147483648) ∧ (-2147483648 ≤ p ∧ p < 2147483648)) (hQ : ∀ (z : Int) (ζ' : Sf), z = fplace τ r w p → Q (some (.int (zI z))) τ ζ') : C E GX kX0_place (d + 7) [.ref (eAd E 0), .int (zI r), .int (zI w), .int (zI p)] τ ζ Q := by
  refine C_of (by decide) rfl rfl ?_
  show R E GX kX0_place (d + 7) 0 [some (.ref (eAd E 0)), some (.int (zI r)), some (.int (zI w)), some (.int (zI p))] [] τ ζ Q
  obtain ⟨hn, hm, hmk, hys, hpu, hcu, hpl, hwe, hpr, hmi, hwo, hco, hch⟩ := id hI
  refine R_iload_n dX0_place_0 rfl ?_
  refine R_callS1 (k2 := kX0_isRound) dX0_place_1 rfl gX0_place_X0_isRound kkX0_isRound (Nat.le_of_ble_eq_true rfl) (c_X0_isRound (by omega) (fun b1 => ?_) (fun b1 => ?_))
  · show R _ _ _ _ 4 _ [_] _ _ _
    refine R_if_eq (tgt := 15) (by decide) dX0_place_4 (by decide) (fun h => absurd h (by decide)) (fun _ => ?_)
    refine R_aload_n dX0_place_7 rfl ?_
    refine R_iload_n dX0_place_8 rfl ?_
    refine R_callV1 (k2 := kX0_isPlayer) dX0_place_9 rfl gX0_place_X0_isPlayer kkX0_isPlayer rfl rfl (Nat.le_of_ble_eq_true rfl) (c_X0_isPlayer hI (by omega) (fun b9 => ?_) (fun b9 => ?_))
    · show R _ _ _ _ 12 _ [_] _ _ _
      refine R_if_ne (tgt := 18) (by decide) dX0_place_12 (by decide) (fun _ => ?_) (fun h => absurd h (by decide))
      refine R_iload_n dX0_place_18 rfl ?_
      refine R_callS1 (k2 := kX0_isWay) dX0_place_19 rfl gX0_place_X0_isWay kkX0_isWay (Nat.le_of_ble_eq_true rfl) (c_X0_isWay (by omega) (fun b19 => ?_) (fun b19 => ?_))
      · show R _ _ _ _ 22 _ [_] _ _ _
        refine R_if_ne (tgt := 28) (by decide) dX0_place_22 (by decide) (fun _ => ?_) (fun h => absurd h (by decide))
        refine R_aload_n dX0_place_28 rfl ?_
        refine R_iload_n dX0_place_29 rfl ?_
        refine R_iload_n dX0_place_30 rfl ?_
        refine R_callV2 (k2 := kX0_fillScores) dX0_place_31 rfl gX0_place_X0_fillScores kkX0_fillScores rfl rfl (Nat.le_of_ble_eq_true rfl) (c_X0_fillScores hI (by omega) (by omega) (fun ζ31 hz31 hK31 => ?_))
        show R _ _ _ _ 34 _ [] _ _ _
        refine R_aload_n dX0_place_34 rfl ?_
        refine R_aload_n dX0_place_35 rfl ?_
        refine R_getR fX0_place_50 dX0_place_36 ?_
        refine R_iload_n dX0_place_39 rfl ?_
        refine R_callV2 (k2 := kX0_placeIn) dX0_place_40 rfl gX0_place_X0_placeIn kkX0_placeIn rfl rfl (Nat.le_of_ble_eq_true rfl) (c_X0_placeIn rfl rfl hI (by omega) (fun x g1 g2 => by rw [hz31 x g1 g2]; have := scX_bd (r := r) (p := x) hI (show 0 ≤ w ∧ w ≤ 5 by omega); omega) (fun r40 h40 => ?_))
        subst h40
        show R _ _ _ _ 43 _ [_] _ _ _
        refine R_iret rfl dX0_place_43 ?_
        rw [plc_congr hz31 (by omega)]
        exact hQ _ _ (by unfold fplace; first | rw [if_pos (by omega)] | rw [if_neg (by omega), if_pos (by omega)] | rw [if_neg (by omega), if_neg (by omega), if_pos (by omega)] | rw [if_neg (by omega), if_neg (by omega), if_neg (by omega)] | rw [if_neg (by omega), if_neg (by omega)] | rw [if_neg (by omega)])
      · show R _ _ _ _ 22 _ [_] _ _ _
        refine R_if_ne (tgt := 28) (by decide) dX0_place_22 (by decide) (fun h => absurd h (by decide)) (fun _ => ?_)
        refine R_bipush dX0_place_25 (by decide) ?_
        refine R_iret rfl dX0_place_27 ?_
        exact hQ _ _ (by unfold fplace; first | rw [if_pos (by omega)] | rw [if_neg (by omega), if_pos (by omega)] | rw [if_neg (by omega), if_neg (by omega), if_pos (by omega)] | rw [if_neg (by omega), if_neg (by omega), if_neg (by omega)] | rw [if_neg (by omega), if_neg (by omega)] | rw [if_neg (by omega)])
    · show R _ _ _ _ 12 _ [_] _ _ _
      refine R_if_ne (tgt := 18) (by decide) dX0_place_12 (by decide) (fun h => absurd h (by decide)) (fun _ => ?_)
      refine R_bipush dX0_place_15 (by decide) ?_
      refine R_iret rfl dX0_place_17 ?_
      exact hQ _ _ (by unfold fplace; first | rw [if_pos (by omega)] | rw [if_neg (by omega), if_pos (by omega)] | rw [if_neg (by omega), if_neg (by omega), if_pos (by omega)] | rw [if_neg (by omega), if_neg (by omega), if_neg (by omega)] | rw [if_neg (by omega), if_neg (by omega)] | rw [if_neg (by omega)])
  · show R _ _ _ _ 4 _ [_] _ _ _
    refine R_if_eq (tgt := 15) (by decide) dX0_place_4 (by decide) (fun _ => ?_) (fun h => absurd h (by decide))
    refine R_bipush dX0_place_15 (by decide) ?_
    refine R_iret rfl dX0_place_17 ?_
    exact hQ _ _ (by unfold fplace; first | rw [if_pos (by omega)] | rw [if_neg (by omega), if_pos (by omega)] | rw [if_neg (by omega), if_neg (by omega), if_pos (by omega)] | rw [if_neg (by omega), if_neg (by omega), if_neg (by omega)] | rw [if_neg (by omega), if_neg (by omega)] | rw [if_neg (by omega)])

def fpassed (τ : Sf) (r w k : Int) : Int := if r < 0 ∨ 2 < r then -101 else if w < 0 ∨ 5 < w ∨ k < 1 ∨ 10 < k then -102 else bsm (psb (scX τ r w) (τ 20 0) k) (τ 20 0)
set_option maxHeartbeats 4000000 in
set_option maxRecDepth 100000 in
theorem c_X0_passed {E : Ev} {d : Nat} {τ ζ : Sf} {Q : Option Value → Sf → Sf → Prop} {r w k : Int} (hI : InvX τ) (hrg : (-2147483648 ≤ r ∧ r < 2147483648) ∧ (-2147483648 ≤ w ∧ w < 2147483648) ∧ (-2147483648 ≤ k ∧ k < 2147483648)) (hQ : ∀ (z : Int) (ζ' : Sf), z = fpassed τ r w k → Q (some (.int (zI z))) τ ζ') : C E GX kX0_passed (d + 8) [.ref (eAd E 0), .int (zI r), .int (zI w), .int (zI k)] τ ζ Q := by
  refine C_of (by decide) rfl rfl ?_
  show R E GX kX0_passed (d + 8) 0 [some (.ref (eAd E 0)), some (.int (zI r)), some (.int (zI w)), some (.int (zI k))] [] τ ζ Q
  obtain ⟨hn, hm, hmk, hys, hpu, hcu, hpl, hwe, hpr, hmi, hwo, hco, hch⟩ := id hI
  refine R_iload_n dX0_passed_0 rfl ?_
  refine R_callS1 (k2 := kX0_isRound) dX0_passed_1 rfl gX0_passed_X0_isRound kkX0_isRound (Nat.le_of_ble_eq_true rfl) (c_X0_isRound (by omega) (fun b1 => ?_) (fun b1 => ?_))
  · show R _ _ _ _ 4 _ [_] _ _ _
    refine R_if_ne (tgt := 10) (by decide) dX0_passed_4 (by decide) (fun _ => ?_) (fun h => absurd h (by decide))
    refine R_iload_n dX0_passed_10 rfl ?_
    refine R_callS1 (k2 := kX0_isWay) dX0_passed_11 rfl gX0_passed_X0_isWay kkX0_isWay (Nat.le_of_ble_eq_true rfl) (c_X0_isWay (by omega) (fun b11 => ?_) (fun b11 => ?_))
    · show R _ _ _ _ 14 _ [_] _ _ _
      refine R_if_eq (tgt := 24) (by decide) dX0_passed_14 (by decide) (fun h => absurd h (by decide)) (fun _ => ?_)
      refine R_iload_n dX0_passed_17 rfl ?_
      refine R_callS1 (k2 := kX0_isLimit) dX0_passed_18 rfl gX0_passed_X0_isLimit kkX0_isLimit (Nat.le_of_ble_eq_true rfl) (c_X0_isLimit (by omega) (fun b18 => ?_) (fun b18 => ?_))
      · show R _ _ _ _ 21 _ [_] _ _ _
        refine R_if_ne (tgt := 27) (by decide) dX0_passed_21 (by decide) (fun _ => ?_) (fun h => absurd h (by decide))
        refine R_aload_n dX0_passed_27 rfl ?_
        refine R_iload_n dX0_passed_28 rfl ?_
        refine R_iload_n dX0_passed_29 rfl ?_
        refine R_iload_n dX0_passed_30 rfl ?_
        refine R_callV3 (k2 := kX0_passedBits) dX0_passed_31 rfl gX0_passed_X0_passedBits kkX0_passedBits rfl rfl (Nat.le_of_ble_eq_true rfl) (c_X0_passedBits hI (by omega) (by omega) (by omega) (fun r31 ζ31 h31 => ?_))
        subst h31
        show R _ _ _ _ 34 _ [_] _ _ _
        refine R_iret rfl dX0_passed_34 ?_
        exact hQ _ _ (by unfold fpassed; first | rw [if_pos (by omega)] | rw [if_neg (by omega), if_pos (by omega)] | rw [if_neg (by omega), if_neg (by omega), if_pos (by omega)] | rw [if_neg (by omega), if_neg (by omega), if_neg (by omega)] | rw [if_neg (by omega), if_neg (by omega)] | rw [if_neg (by omega)])
      · show R _ _ _ _ 21 _ [_] _ _ _
        refine R_if_ne (tgt := 27) (by decide) dX0_passed_21 (by decide) (fun h => absurd h (by decide)) (fun _ => ?_)
        refine R_bipush dX0_passed_24 (by decide) ?_
        refine R_iret rfl dX0_passed_26 ?_
        exact hQ _ _ (by unfold fpassed; first | rw [if_pos (by omega)] | rw [if_neg (by omega), if_pos (by omega)] | rw [if_neg (by omega), if_neg (by omega), if_pos (by omega)] | rw [if_neg (by omega), if_neg (by omega), if_neg (by omega)] | rw [if_neg (by omega), if_neg (by omega)] | rw [if_neg (by omega)])
    · show R _ _ _ _ 14 _ [_] _ _ _
      refine R_if_eq (tgt := 24) (by decide) dX0_passed_14 (by decide) (fun _ => ?_) (fun h => absurd h (by decide))
      refine R_bipush dX0_passed_24 (by decide) ?_
      refine R_iret rfl dX0_passed_26 ?_
      exact hQ _ _ (by unfold fpassed; first | rw [if_pos (by omega)] | rw [if_neg (by omega), if_pos (by omega)] | rw [if_neg (by omega), if_neg (by omega), if_pos (by omega)] | rw [if_neg (by omega), if_neg (by omega), if_neg (by omega)] | rw [if_neg (by omega), if_neg (by omega)] | rw [if_neg (by omega)])
  · show R _ _ _ _ 4 _ [_] _ _ _
    refine R_if_ne (tgt := 10) (by decide) dX0_passed_4 (by decide) (fun h => absurd h (by decide)) (fun _ => ?_)
    refine R_bipush dX0_passed_7 (by decide) ?_
    refine R_iret rfl dX0_passed_9 ?_
    exact hQ _ _ (by unfold fpassed; first | rw [if_pos (by omega)] | rw [if_neg (by omega), if_pos (by omega)] | rw [if_neg (by omega), if_neg (by omega), if_pos (by omega)] | rw [if_neg (by omega), if_neg (by omega), if_neg (by omega)] | rw [if_neg (by omega), if_neg (by omega)] | rw [if_neg (by omega)])

def freach (τ : Sf) (r w j p s : Int) : Int := if r < 0 ∨ 2 < r ∨ j < 0 ∨ τ 21 0 ≤ j ∨ p < 0 ∨ τ 20 0 ≤ p then -101 else if w < 0 ∨ 5 < w ∨ s < 0 ∨ 1 < s then -102 else if τ 3 (j * 10 + p) = 1 then -103 else plc (scX (md τ r w j p (1 - s)) r w) (τ 20 0) p
set_option maxHeartbeats 4000000 in
set_option maxRecDepth 100000 in
theorem c_X0_reach {E : Ev} {d : Nat} {τ ζ : Sf} {Q : Option Value → Sf → Sf → Prop} {r w j p s : Int} (hI : InvX τ) (hrg : (-2147483648 ≤ r ∧ r < 2147483648) ∧ (-2147483648 ≤ w ∧ w < 2147483648) ∧ (-2147483648 ≤ j ∧ j < 2147483648) ∧ (-2147483648 ≤ p ∧ p < 2147483648) ∧ (-2147483648 ≤ s ∧ s < 2147483648)) (hQ : ∀ (z : Int) (ζ' : Sf), z = freach τ r w j p s → Q (some (.int (zI z))) τ ζ') : C E GX kX0_reach (d + 8) [.ref (eAd E 0), .int (zI r), .int (zI w), .int (zI j), .int (zI p), .int (zI s)] τ ζ Q := by
  refine C_of (by decide) rfl rfl ?_
  show R E GX kX0_reach (d + 8) 0 [some (.ref (eAd E 0)), some (.int (zI r)), some (.int (zI w)), some (.int (zI j)), some (.int (zI p)), some (.int (zI s))] [] τ ζ Q
  obtain ⟨hn, hm, hmk, hys, hpu, hcu, hpl, hwe, hpr, hmi, hwo, hco, hch⟩ := id hI
  refine R_iload_n dX0_reach_0 rfl ?_
  refine R_callS1 (k2 := kX0_isRound) dX0_reach_1 rfl gX0_reach_X0_isRound kkX0_isRound (Nat.le_of_ble_eq_true rfl) (c_X0_isRound (by omega) (fun b1 => ?_) (fun b1 => ?_))
  · show R _ _ _ _ 4 _ [_] _ _ _
    refine R_if_eq (tgt := 24) (by decide) dX0_reach_4 (by decide) (fun h => absurd h (by decide)) (fun _ => ?_)
    refine R_aload_n dX0_reach_7 rfl ?_
    refine R_iload_n dX0_reach_8 rfl ?_
    refine R_callV1 (k2 := kX0_isJuror) dX0_reach_9 rfl gX0_reach_X0_isJuror kkX0_isJuror rfl rfl (Nat.le_of_ble_eq_true rfl) (c_X0_isJuror hI (by omega) (fun b9 => ?_) (fun b9 => ?_))
    · show R _ _ _ _ 12 _ [_] _ _ _
      refine R_if_eq (tgt := 24) (by decide) dX0_reach_12 (by decide) (fun h => absurd h (by decide)) (fun _ => ?_)
      refine R_aload_n dX0_reach_15 rfl ?_
      refine R_iload dX0_reach_16 rfl ?_
      refine R_callV1 (k2 := kX0_isPlayer) dX0_reach_18 rfl gX0_reach_X0_isPlayer kkX0_isPlayer rfl rfl (Nat.le_of_ble_eq_true rfl) (c_X0_isPlayer hI (by omega) (fun b18 => ?_) (fun b18 => ?_))
      · show R _ _ _ _ 21 _ [_] _ _ _
        refine R_if_ne (tgt := 27) (by decide) dX0_reach_21 (by decide) (fun _ => ?_) (fun h => absurd h (by decide))
        refine R_iload_n dX0_reach_27 rfl ?_
        refine R_callS1 (k2 := kX0_isWay) dX0_reach_28 rfl gX0_reach_X0_isWay kkX0_isWay (Nat.le_of_ble_eq_true rfl) (c_X0_isWay (by omega) (fun b28 => ?_) (fun b28 => ?_))
        · show R _ _ _ _ 31 _ [_] _ _ _
          refine R_if_eq (tgt := 44) (by decide) dX0_reach_31 (by decide) (fun h => absurd h (by decide)) (fun _ => ?_)
          refine R_iload dX0_reach_34 rfl ?_
          refine R_iconst dX0_reach_36 ?_
          refine R_iconst dX0_reach_37 ?_
          refine R_callS3 (k2 := kX0_isWithin) dX0_reach_38 rfl gX0_reach_X0_isWithin kkX0_isWithin (Nat.le_of_ble_eq_true rfl) (c_X0_isWithin (by omega) (fun b38 => ?_) (fun b38 => ?_))
          · show R _ _ _ _ 41 _ [_] _ _ _
            refine R_if_ne (tgt := 47) (by decide) dX0_reach_41 (by decide) (fun _ => ?_) (fun h => absurd h (by decide))
            refine R_aload_n dX0_reach_47 rfl ?_
            refine R_iload_n dX0_reach_48 rfl ?_
            refine R_iload dX0_reach_49 rfl ?_
            refine R_callV2 (k2 := kX0_isPupil) dX0_reach_51 rfl gX0_reach_X0_isPupil kkX0_isPupil rfl rfl (Nat.le_of_ble_eq_true rfl) (c_X0_isPupil hI (by omega) (by omega) (fun b51 => ?_) (fun b51 => ?_))
            · show R _ _ _ _ 54 _ [_] _ _ _
              refine R_if_eq (tgt := 60) (by decide) dX0_reach_54 (by decide) (fun h => absurd h (by decide)) (fun _ => ?_)
              refine R_bipush dX0_reach_57 (by decide) ?_
              refine R_iret rfl dX0_reach_59 ?_
              exact hQ _ _ (by unfold freach; first | rw [if_pos (by omega)] | rw [if_neg (by omega), if_pos (by omega)] | rw [if_neg (by omega), if_neg (by omega), if_pos (by omega)] | rw [if_neg (by omega), if_neg (by omega), if_neg (by omega)] | rw [if_neg (by omega), if_neg (by omega)] | rw [if_neg (by omega)])
            · show R _ _ _ _ 54 _ [_] _ _ _
              refine R_if_eq (tgt := 60) (by decide) dX0_reach_54 (by decide) (fun _ => ?_) (fun h => absurd h (by decide))
              refine R_aload_n dX0_reach_60 rfl ?_
              refine R_iload_n dX0_reach_61 rfl ?_
              refine R_iload_n dX0_reach_62 rfl ?_
              refine R_iload_n dX0_reach_63 rfl ?_
              refine R_iload dX0_reach_64 rfl ?_
              refine R_iload dX0_reach_66 rfl ?_
              refine R_if_ne (tgt := 75) (by omega) dX0_reach_68 (by decide) (fun c68 => ?_) (fun c68 => ?_)
              · refine R_iconst dX0_reach_75 ?_
                refine R_callV5 (k2 := kX0_fillScoresIf) dX0_reach_76 rfl gX0_reach_X0_fillScoresIf kkX0_fillScoresIf rfl rfl (Nat.le_of_ble_eq_true rfl) (c_X0_fillScoresIf hI (by omega) (by omega) (by omega) (by omega) (by omega) (fun ζ76 hz76 hK76 => ?_))
                show R _ _ _ _ 79 _ [] _ _ _
                refine R_aload_n dX0_reach_79 rfl ?_
                refine R_aload_n dX0_reach_80 rfl ?_
                refine R_getR fX0_reach_50 dX0_reach_81 ?_
                refine R_iload dX0_reach_84 rfl ?_
                refine R_callV2 (k2 := kX0_placeIn) dX0_reach_86 rfl gX0_reach_X0_placeIn kkX0_placeIn rfl rfl (Nat.le_of_ble_eq_true rfl) (c_X0_placeIn rfl rfl hI (by omega) (by first | exact (fun x g1 g2 => by rw [hz76 x g1 g2]; have := scX_bd (r := r) (w := w) (p := x) (md_inv (r := r) (w := w) (j := j) (p := p) (b := 1) hI (by omega)) (by omega); omega) | exact (fun x g1 g2 => by rw [hz76 x g1 g2]; have := scX_bd (r := r) (w := w) (p := x) (md_inv (r := r) (w := w) (j := j) (p := p) (b := 0) hI (by omega)) (by omega); omega)) (fun r86 h86 => ?_))
                subst h86
                show R _ _ _ _ 89 _ [_] _ _ _
                refine R_iret rfl dX0_reach_89 ?_
                rw [plc_congr hz76 (by omega)]
                first
                | (have hs0 : s = 0 := by omega
                   subst hs0
                   exact hQ _ _ (by unfold freach; (first | rw [if_pos (by omega)] | rw [if_neg (by omega), if_pos (by omega)] | rw [if_neg (by omega), if_neg (by omega), if_pos (by omega)] | rw [if_neg (by omega), if_neg (by omega), if_neg (by omega)] | rw [if_neg (by omega), if_neg (by omega)] | rw [if_neg (by omega)]) <;> rfl))
                | (have hs1 : s = 1 := by omega
                   subst hs1
                   exact hQ _ _ (by unfold freach; (first | rw [if_pos (by omega)] | rw [if_neg (by omega), if_pos (by omega)] | rw [if_neg (by omega), if_neg (by omega), if_pos (by omega)] | rw [if_neg (by omega), if_neg (by omega), if_neg (by omega)] | rw [if_neg (by omega), if_neg (by omega)] | rw [if_neg (by omega)]) <;> rfl))
              · refine R_iconst dX0_reach_71 ?_
                refine R_goto (tgt := 76) dX0_reach_72 (by decide) ?_
                refine R_callV5 (k2 := kX0_fillScoresIf) dX0_reach_76 rfl gX0_reach_X0_fillScoresIf kkX0_fillScoresIf rfl rfl (Nat.le_of_ble_eq_true rfl) (c_X0_fillScoresIf hI (by omega) (by omega) (by omega) (by omega) (by omega) (fun ζ76 hz76 hK76 => ?_))
                show R _ _ _ _ 79 _ [] _ _ _
                refine R_aload_n dX0_reach_79 rfl ?_
                refine R_aload_n dX0_reach_80 rfl ?_
                refine R_getR fX0_reach_50 dX0_reach_81 ?_
                refine R_iload dX0_reach_84 rfl ?_
                refine R_callV2 (k2 := kX0_placeIn) dX0_reach_86 rfl gX0_reach_X0_placeIn kkX0_placeIn rfl rfl (Nat.le_of_ble_eq_true rfl) (c_X0_placeIn rfl rfl hI (by omega) (by first | exact (fun x g1 g2 => by rw [hz76 x g1 g2]; have := scX_bd (r := r) (w := w) (p := x) (md_inv (r := r) (w := w) (j := j) (p := p) (b := 1) hI (by omega)) (by omega); omega) | exact (fun x g1 g2 => by rw [hz76 x g1 g2]; have := scX_bd (r := r) (w := w) (p := x) (md_inv (r := r) (w := w) (j := j) (p := p) (b := 0) hI (by omega)) (by omega); omega)) (fun r86 h86 => ?_))
                subst h86
                show R _ _ _ _ 89 _ [_] _ _ _
                refine R_iret rfl dX0_reach_89 ?_
                rw [plc_congr hz76 (by omega)]
                first
                | (have hs0 : s = 0 := by omega
                   subst hs0
                   exact hQ _ _ (by unfold freach; (first | rw [if_pos (by omega)] | rw [if_neg (by omega), if_pos (by omega)] | rw [if_neg (by omega), if_neg (by omega), if_pos (by omega)] | rw [if_neg (by omega), if_neg (by omega), if_neg (by omega)] | rw [if_neg (by omega), if_neg (by omega)] | rw [if_neg (by omega)]) <;> rfl))
                | (have hs1 : s = 1 := by omega
                   subst hs1
                   exact hQ _ _ (by unfold freach; (first | rw [if_pos (by omega)] | rw [if_neg (by omega), if_pos (by omega)] | rw [if_neg (by omega), if_neg (by omega), if_pos (by omega)] | rw [if_neg (by omega), if_neg (by omega), if_neg (by omega)] | rw [if_neg (by omega), if_neg (by omega)] | rw [if_neg (by omega)]) <;> rfl))
          · show R _ _ _ _ 41 _ [_] _ _ _
            refine R_if_ne (tgt := 47) (by decide) dX0_reach_41 (by decide) (fun h => absurd h (by decide)) (fun _ => ?_)
            refine R_bipush dX0_reach_44 (by decide) ?_
            refine R_iret rfl dX0_reach_46 ?_
            exact hQ _ _ (by unfold freach; first | rw [if_pos (by omega)] | rw [if_neg (by omega), if_pos (by omega)] | rw [if_neg (by omega), if_neg (by omega), if_pos (by omega)] | rw [if_neg (by omega), if_neg (by omega), if_neg (by omega)] | rw [if_neg (by omega), if_neg (by omega)] | rw [if_neg (by omega)])
        · show R _ _ _ _ 31 _ [_] _ _ _
          refine R_if_eq (tgt := 44) (by decide) dX0_reach_31 (by decide) (fun _ => ?_) (fun h => absurd h (by decide))
          refine R_bipush dX0_reach_44 (by decide) ?_
          refine R_iret rfl dX0_reach_46 ?_
          exact hQ _ _ (by unfold freach; first | rw [if_pos (by omega)] | rw [if_neg (by omega), if_pos (by omega)] | rw [if_neg (by omega), if_neg (by omega), if_pos (by omega)] | rw [if_neg (by omega), if_neg (by omega), if_neg (by omega)] | rw [if_neg (by omega), if_neg (by omega)] | rw [if_neg (by omega)])
      · show R _ _ _ _ 21 _ [_] _ _ _
        refine R_if_ne (tgt := 27) (by decide) dX0_reach_21 (by decide) (fun h => absurd h (by decide)) (fun _ => ?_)
        refine R_bipush dX0_reach_24 (by decide) ?_
        refine R_iret rfl dX0_reach_26 ?_
        exact hQ _ _ (by unfold freach; first | rw [if_pos (by omega)] | rw [if_neg (by omega), if_pos (by omega)] | rw [if_neg (by omega), if_neg (by omega), if_pos (by omega)] | rw [if_neg (by omega), if_neg (by omega), if_neg (by omega)] | rw [if_neg (by omega), if_neg (by omega)] | rw [if_neg (by omega)])
    · show R _ _ _ _ 12 _ [_] _ _ _
      refine R_if_eq (tgt := 24) (by decide) dX0_reach_12 (by decide) (fun _ => ?_) (fun h => absurd h (by decide))
      refine R_bipush dX0_reach_24 (by decide) ?_
      refine R_iret rfl dX0_reach_26 ?_
      exact hQ _ _ (by unfold freach; first | rw [if_pos (by omega)] | rw [if_neg (by omega), if_pos (by omega)] | rw [if_neg (by omega), if_neg (by omega), if_pos (by omega)] | rw [if_neg (by omega), if_neg (by omega), if_neg (by omega)] | rw [if_neg (by omega), if_neg (by omega)] | rw [if_neg (by omega)])
  · show R _ _ _ _ 4 _ [_] _ _ _
    refine R_if_eq (tgt := 24) (by decide) dX0_reach_4 (by decide) (fun _ => ?_) (fun h => absurd h (by decide))
    refine R_bipush dX0_reach_24 (by decide) ?_
    refine R_iret rfl dX0_reach_26 ?_
    exact hQ _ _ (by unfold freach; first | rw [if_pos (by omega)] | rw [if_neg (by omega), if_pos (by omega)] | rw [if_neg (by omega), if_neg (by omega), if_pos (by omega)] | rw [if_neg (by omega), if_neg (by omega), if_neg (by omega)] | rw [if_neg (by omega), if_neg (by omega)] | rw [if_neg (by omega)])

theorem fil_up {τ : Sf} {q k : Nat} {a b z v w : Int} (h : q ≠ k) : fil (up τ k z v) q a b w = up (fil τ q a b w) k z v := by
  funext x i
  by_cases hx : x = q
  · subst hx
    rw [up_ne h]
    unfold fil
    rw [if_pos rfl, if_pos rfl, up_ne h]
  · by_cases hk : x = k
    · subst hk
      rw [up_at]
      unfold fil
      rw [if_neg hx, if_neg hx, up_at]
    · rw [up_ne hk]
      unfold fil
      rw [if_neg hx, if_neg hx, up_ne hk]
def beg (τ : Sf) : Sf := up (fil (fil (fil (fil τ 1 0 210 (-1)) 2 0 210 0) 3 0 70 0) 7 0 10 0) 32 0 0
set_option maxHeartbeats 4000000 in
set_option maxRecDepth 100000 in
theorem c_X1_begin {E : Ev} {d : Nat} {τ ζ : Sf} {Q : Option Value → Sf → Sf → Prop} (hQ : Q none (beg τ) ζ) : C E GM kX1_begin d [.ref (eAd E 0)] τ ζ Q := by
  refine C_of (by decide) rfl rfl ?_
  show R E GM kX1_begin d 0 [some (.ref (eAd E 0)), none] [] τ ζ Q
  have loopC : ∀ (N : Nat) (i : Int) (τ' : Sf), (10 - i).toNat = N → 0 ≤ i → i ≤ 10 → up (fil τ' 7 i 10 0) 32 0 0 = beg τ → R E GM kX1_begin d 52 [some (.ref (eAd E 0)), some (.int (zI i))] [] τ' ζ Q := by
    refine st_ind (fun N ih => ?_)
    intro i τ' hN hi hi2 hf
    refine R_iload_n dX1_begin_52 rfl ?_
    refine R_bipush dX1_begin_53 (by decide) ?_
    refine R_icmp_ge (tgt := 71) (by omega) dX1_begin_55 (by decide) (fun c55 => ?_) (fun c55 => ?_)
    · refine R_aload_n dX1_begin_71 rfl ?_
      refine R_iconst dX1_begin_72 ?_
      refine R_putZ 32 fX1_begin_60 (by decide) rfl rfl rfl (by decide +kernel) dX1_begin_73 ?_
      refine R_vret rfl dX1_begin_76 ?_
      rw [fil_ge (by omega)] at hf
      rw [hf]
      exact hQ
    · refine R_aload_n dX1_begin_58 rfl ?_
      refine R_getR fX1_begin_42 dX1_begin_59 ?_
      refine R_iload_n dX1_begin_62 rfl ?_
      refine R_iconst dX1_begin_63 ?_
      refine R_iast (q := 7) GMok rfl rfl (by omega) rfl dX1_begin_64 ?_
      refine R_iinc dX1_begin_65 rfl rfl rfl ?_
      refine R_goto (tgt := 52) dX1_begin_68 (by decide) ?_
      exact ih _ (by omega) (i + 1) _ rfl (by omega) (by omega) (by rw [fil_lt (by omega)]; exact hf)
  have loopB : ∀ (N : Nat) (i : Int) (τ' : Sf), (70 - i).toNat = N → 0 ≤ i → i ≤ 70 → up (fil (fil τ' 3 i 70 0) 7 0 10 0) 32 0 0 = beg τ → R E GM kX1_begin d 31 [some (.ref (eAd E 0)), some (.int (zI i))] [] τ' ζ Q := by
    refine st_ind (fun N ih => ?_)
    intro i τ' hN hi hi2 hf
    refine R_iload_n dX1_begin_31 rfl ?_
    refine R_bipush dX1_begin_32 (by decide) ?_
    refine R_icmp_ge (tgt := 50) (by omega) dX1_begin_34 (by decide) (fun c34 => ?_) (fun c34 => ?_)
    · refine R_iconst dX1_begin_50 ?_
      refine R_istore_n dX1_begin_51 rfl rfl ?_
      rw [fil_ge (show (70 : Int) ≤ i by omega)] at hf
      exact loopC _ 0 _ rfl (by omega) (by omega) hf
    · refine R_aload_n dX1_begin_37 rfl ?_
      refine R_getR fX1_begin_24 dX1_begin_38 ?_
      refine R_iload_n dX1_begin_41 rfl ?_
      refine R_iconst dX1_begin_42 ?_
      refine R_bast (q := 3) GMok rfl rfl (by decide) rfl (by omega) rfl dX1_begin_43 ?_
      refine R_iinc dX1_begin_44 rfl rfl rfl ?_
      refine R_goto (tgt := 31) dX1_begin_47 (by decide) ?_
      exact ih _ (by omega) (i + 1) _ rfl (by omega) (by omega) (by rw [fil_lt (by omega)]; exact hf)
  have loopA : ∀ (N : Nat) (i : Int) (τ' : Sf), (210 - i).toNat = N → 0 ≤ i → i ≤ 210 → up (fil (fil (fil (fil τ' 1 i 210 (-1)) 2 i 210 0) 3 0 70 0) 7 0 10 0) 32 0 0 = beg τ → R E GM kX1_begin d 2 [some (.ref (eAd E 0)), some (.int (zI i))] [] τ' ζ Q := by
    refine st_ind (fun N ih => ?_)
    intro i τ' hN hi hi2 hf
    refine R_iload_n dX1_begin_2 rfl ?_
    refine R_sipush dX1_begin_3 (by decide) ?_
    refine R_icmp_ge (tgt := 29) (by omega) dX1_begin_6 (by decide) (fun c6 => ?_) (fun c6 => ?_)
    · refine R_iconst dX1_begin_29 ?_
      refine R_istore_n dX1_begin_30 rfl rfl ?_
      rw [fil_ge (show (210 : Int) ≤ i by omega), fil_ge (show (210 : Int) ≤ i by omega)] at hf
      exact loopB _ 0 _ rfl (by omega) (by omega) hf
    · refine R_aload_n dX1_begin_9 rfl ?_
      refine R_getR fX1_begin_16 dX1_begin_10 ?_
      refine R_iload_n dX1_begin_13 rfl ?_
      refine R_iconst dX1_begin_14 ?_
      refine R_iast (q := 1) GMok rfl rfl (by omega) rfl dX1_begin_15 ?_
      refine R_aload_n dX1_begin_16 rfl ?_
      refine R_getR fX1_begin_20 dX1_begin_17 ?_
      refine R_iload_n dX1_begin_20 rfl ?_
      refine R_iconst dX1_begin_21 ?_
      refine R_bast (q := 2) GMok rfl rfl (by decide) rfl (by omega) rfl dX1_begin_22 ?_
      refine R_iinc dX1_begin_23 rfl rfl rfl ?_
      refine R_goto (tgt := 2) dX1_begin_26 (by decide) ?_
      exact ih _ (by omega) (i + 1) _ rfl (by omega) (by omega) (by rw [fil_up (by decide), fil_lt (by omega), fil_lt (by omega)]; exact hf)
  refine R_iconst dX1_begin_0 ?_
  refine R_istore_n dX1_begin_1 rfl rfl ?_
  exact loopA _ 0 τ rfl (by omega) (by omega) rfl

def fMcontest (τ : Sf) (n m : Int) : Int := if n < 1 ∨ 10 < n ∨ m < 1 ∨ 7 < m then -102 else n
def tMcontest (τ : Sf) (n m : Int) : Sf := if n < 1 ∨ 10 < n ∨ m < 1 ∨ 7 < m then τ else beg (up (up τ 20 0 n) 21 0 m)
set_option maxHeartbeats 4000000 in
set_option maxRecDepth 100000 in
theorem c_X1_contest {E : Ev} {d : Nat} {τ ζ : Sf} {Q : Option Value → Sf → Sf → Prop} {n m : Int} (hI : InvM τ) (hrg : (-2147483648 ≤ n ∧ n < 2147483648) ∧ (-2147483648 ≤ m ∧ m < 2147483648)) (hQ : ∀ (z : Int) (τ' ζ' : Sf), z = fMcontest τ n m → τ' = tMcontest τ n m → Q (some (.int (zI z))) τ' ζ') : C E GM kX1_contest (d + 2) [.ref (eAd E 0), .int (zI n), .int (zI m)] τ ζ Q := by
  refine C_of (by decide) rfl rfl ?_
  show R E GM kX1_contest (d + 2) 0 [some (.ref (eAd E 0)), some (.int (zI n)), some (.int (zI m))] [] τ ζ Q
  obtain ⟨hn, hm, hmk, hys, hpu, hcu, hpl, hwe, hpr, hmi, hwo, hco, hch, hhp⟩ := id hI
  refine R_iload_n dX1_contest_0 rfl ?_
  refine R_iconst dX1_contest_1 ?_
  refine R_bipush dX1_contest_2 (by decide) ?_
  refine R_callS3 (k2 := kX1_in) dX1_contest_4 rfl gX1_contest_X1_in kkX1_in (Nat.le_of_ble_eq_true rfl) (c_X1_in (by omega) (fun b4 => ?_) (fun b4 => ?_))
  · show R _ _ _ _ 7 _ [_] _ _ _
    refine R_if_eq (tgt := 20) (by decide) dX1_contest_7 (by decide) (fun h => absurd h (by decide)) (fun _ => ?_)
    refine R_iload_n dX1_contest_10 rfl ?_
    refine R_iconst dX1_contest_11 ?_
    refine R_bipush dX1_contest_12 (by decide) ?_
    refine R_callS3 (k2 := kX1_in) dX1_contest_14 rfl gX1_contest_X1_in kkX1_in (Nat.le_of_ble_eq_true rfl) (c_X1_in (by omega) (fun b14 => ?_) (fun b14 => ?_))
    · show R _ _ _ _ 17 _ [_] _ _ _
      refine R_if_ne (tgt := 23) (by decide) dX1_contest_17 (by decide) (fun _ => ?_) (fun h => absurd h (by decide))
      refine R_aload_n dX1_contest_23 rfl ?_
      refine R_iload_n dX1_contest_24 rfl ?_
      refine R_putI 20 fX1_contest_7 rfl rfl rfl (by decide +kernel) dX1_contest_25 ?_
      refine R_aload_n dX1_contest_28 rfl ?_
      refine R_iload_n dX1_contest_29 rfl ?_
      refine R_putI 21 fX1_contest_13 rfl rfl rfl (by decide +kernel) dX1_contest_30 ?_
      refine R_aload_n dX1_contest_33 rfl ?_
      refine R_callV0 (k2 := kX1_begin) dX1_contest_34 rfl gX1_contest_X1_begin kkX1_begin rfl rfl (Nat.le_of_ble_eq_true rfl) (c_X1_begin ?_)
      show R _ _ _ _ 37 _ [] _ _ _
      refine R_iload_n dX1_contest_37 rfl ?_
      refine R_iret rfl dX1_contest_38 ?_
      exact hQ _ _ _ (by unfold fMcontest; first | rw [if_pos (by omega)] | rw [if_neg (by omega), if_pos (by omega)] | rw [if_neg (by omega), if_neg (by omega), if_pos (by omega)] | rw [if_neg (by omega), if_neg (by omega), if_neg (by omega)] | rw [if_neg (by omega), if_neg (by omega)] | rw [if_neg (by omega)]) (by unfold tMcontest; first | rw [if_pos (by omega)] | rw [if_neg (by omega), if_pos (by omega)] | rw [if_neg (by omega), if_neg (by omega), if_pos (by omega)] | rw [if_neg (by omega), if_neg (by omega), if_neg (by omega)] | rw [if_neg (by omega), if_neg (by omega)] | rw [if_neg (by omega)])
    · show R _ _ _ _ 17 _ [_] _ _ _
      refine R_if_ne (tgt := 23) (by decide) dX1_contest_17 (by decide) (fun h => absurd h (by decide)) (fun _ => ?_)
      refine R_bipush dX1_contest_20 (by decide) ?_
      refine R_iret rfl dX1_contest_22 ?_
      exact hQ _ _ _ (by unfold fMcontest; first | rw [if_pos (by omega)] | rw [if_neg (by omega), if_pos (by omega)] | rw [if_neg (by omega), if_neg (by omega), if_pos (by omega)] | rw [if_neg (by omega), if_neg (by omega), if_neg (by omega)] | rw [if_neg (by omega), if_neg (by omega)] | rw [if_neg (by omega)]) (by unfold tMcontest; first | rw [if_pos (by omega)] | rw [if_neg (by omega), if_pos (by omega)] | rw [if_neg (by omega), if_neg (by omega), if_pos (by omega)] | rw [if_neg (by omega), if_neg (by omega), if_neg (by omega)] | rw [if_neg (by omega), if_neg (by omega)] | rw [if_neg (by omega)])
  · show R _ _ _ _ 7 _ [_] _ _ _
    refine R_if_eq (tgt := 20) (by decide) dX1_contest_7 (by decide) (fun _ => ?_) (fun h => absurd h (by decide))
    refine R_bipush dX1_contest_20 (by decide) ?_
    refine R_iret rfl dX1_contest_22 ?_
    exact hQ _ _ _ (by unfold fMcontest; first | rw [if_pos (by omega)] | rw [if_neg (by omega), if_pos (by omega)] | rw [if_neg (by omega), if_neg (by omega), if_pos (by omega)] | rw [if_neg (by omega), if_neg (by omega), if_neg (by omega)] | rw [if_neg (by omega), if_neg (by omega)] | rw [if_neg (by omega)]) (by unfold tMcontest; first | rw [if_pos (by omega)] | rw [if_neg (by omega), if_pos (by omega)] | rw [if_neg (by omega), if_neg (by omega), if_pos (by omega)] | rw [if_neg (by omega), if_neg (by omega), if_neg (by omega)] | rw [if_neg (by omega), if_neg (by omega)] | rw [if_neg (by omega)])

def fMmark (τ : Sf) (r j p v : Int) : Int := if r < 0 ∨ 2 < r ∨ j < 0 ∨ τ 21 0 ≤ j ∨ p < 0 ∨ τ 20 0 ≤ p then -101 else if v ≠ -1 ∧ (v < 1 ∨ 100 < v) then -102 else τ 1 (70 * r + 10 * j + p)
def tMmark (τ : Sf) (r j p v : Int) : Sf := if r < 0 ∨ 2 < r ∨ j < 0 ∨ τ 21 0 ≤ j ∨ p < 0 ∨ τ 20 0 ≤ p then τ else if v ≠ -1 ∧ (v < 1 ∨ 100 < v) then τ else up τ 1 (70 * r + 10 * j + p) v
set_option maxHeartbeats 4000000 in
set_option maxRecDepth 100000 in
theorem c_X1_mark {E : Ev} {d : Nat} {τ ζ : Sf} {Q : Option Value → Sf → Sf → Prop} {r j p v : Int} (hI : InvM τ) (hrg : (-2147483648 ≤ r ∧ r < 2147483648) ∧ (-2147483648 ≤ j ∧ j < 2147483648) ∧ (-2147483648 ≤ p ∧ p < 2147483648) ∧ (-2147483648 ≤ v ∧ v < 2147483648)) (hQ : ∀ (z : Int) (τ' ζ' : Sf), z = fMmark τ r j p v → τ' = tMmark τ r j p v → Q (some (.int (zI z))) τ' ζ') : C E GM kX1_mark (d + 2) [.ref (eAd E 0), .int (zI r), .int (zI j), .int (zI p), .int (zI v)] τ ζ Q := by
  refine C_of (by decide) rfl rfl ?_
  show R E GM kX1_mark (d + 2) 0 [some (.ref (eAd E 0)), some (.int (zI r)), some (.int (zI j)), some (.int (zI p)), some (.int (zI v)), none, none] [] τ ζ Q
  obtain ⟨hn, hm, hmk, hys, hpu, hcu, hpl, hwe, hpr, hmi, hwo, hco, hch, hhp⟩ := id hI
  refine R_iload_n dX1_mark_0 rfl ?_
  refine R_callS1 (k2 := kX1_isRound) dX1_mark_1 rfl gX1_mark_X1_isRound kkX1_isRound (Nat.le_of_ble_eq_true rfl) (c_X1_isRound (by omega) (fun b1 => ?_) (fun b1 => ?_))
  · show R _ _ _ _ 4 _ [_] _ _ _
    refine R_if_eq (tgt := 23) (by decide) dX1_mark_4 (by decide) (fun h => absurd h (by decide)) (fun _ => ?_)
    refine R_aload_n dX1_mark_7 rfl ?_
    refine R_iload_n dX1_mark_8 rfl ?_
    refine R_callV1 (k2 := kX1_isJuror) dX1_mark_9 rfl gX1_mark_X1_isJuror kkX1_isJuror rfl rfl (Nat.le_of_ble_eq_true rfl) (c_X1_isJuror hI (by omega) (fun b9 => ?_) (fun b9 => ?_))
    · show R _ _ _ _ 12 _ [_] _ _ _
      refine R_if_eq (tgt := 23) (by decide) dX1_mark_12 (by decide) (fun h => absurd h (by decide)) (fun _ => ?_)
      refine R_aload_n dX1_mark_15 rfl ?_
      refine R_iload_n dX1_mark_16 rfl ?_
      refine R_callV1 (k2 := kX1_isPlayer) dX1_mark_17 rfl gX1_mark_X1_isPlayer kkX1_isPlayer rfl rfl (Nat.le_of_ble_eq_true rfl) (c_X1_isPlayer hI (by omega) (fun b17 => ?_) (fun b17 => ?_))
      · show R _ _ _ _ 20 _ [_] _ _ _
        refine R_if_ne (tgt := 26) (by decide) dX1_mark_20 (by decide) (fun _ => ?_) (fun h => absurd h (by decide))
        refine R_iload dX1_mark_26 rfl ?_
        refine R_iconst dX1_mark_28 ?_
        refine R_icmp_eq (tgt := 46) (by omega) dX1_mark_29 (by decide) (fun c29 => ?_) (fun c29 => ?_)
        · refine R_bipush dX1_mark_46 (by decide) ?_
          refine R_iload_n dX1_mark_48 rfl ?_
          refine R_imul dX1_mark_49 ?_
          refine R_bipush dX1_mark_50 (by decide) ?_
          refine R_iload_n dX1_mark_52 rfl ?_
          refine R_imul dX1_mark_53 ?_
          refine R_iadd dX1_mark_54 ?_
          refine R_iload_n dX1_mark_55 rfl ?_
          refine R_iadd dX1_mark_56 ?_
          refine R_istore dX1_mark_57 rfl rfl ?_
          refine R_aload_n dX1_mark_59 rfl ?_
          refine R_getR fX1_mark_16 dX1_mark_60 ?_
          refine R_iload dX1_mark_63 rfl ?_
          refine R_iald (q := 1) rfl rfl (by omega) rfl dX1_mark_65 ?_
          refine R_istore dX1_mark_66 rfl rfl ?_
          refine R_aload_n dX1_mark_68 rfl ?_
          refine R_getR fX1_mark_16 dX1_mark_69 ?_
          refine R_iload dX1_mark_72 rfl ?_
          refine R_iload dX1_mark_74 rfl ?_
          refine R_iast (q := 1) GMok rfl rfl (by omega) rfl dX1_mark_76 ?_
          refine R_iload dX1_mark_77 rfl ?_
          refine R_iret rfl dX1_mark_79 ?_
          exact hQ _ _ _ (by unfold fMmark; first | rw [if_pos (by omega)] | rw [if_neg (by omega), if_pos (by omega)] | rw [if_neg (by omega), if_neg (by omega), if_pos (by omega)] | rw [if_neg (by omega), if_neg (by omega), if_neg (by omega)] | rw [if_neg (by omega), if_neg (by omega)] | rw [if_neg (by omega)]) (by unfold tMmark; first | rw [if_pos (by omega)] | rw [if_neg (by omega), if_pos (by omega)] | rw [if_neg (by omega), if_neg (by omega), if_pos (by omega)] | rw [if_neg (by omega), if_neg (by omega), if_neg (by omega)] | rw [if_neg (by omega), if_neg (by omega)] | rw [if_neg (by omega)])
        · refine R_iload dX1_mark_32 rfl ?_
          refine R_iconst dX1_mark_34 ?_
          refine R_bipush dX1_mark_35 (by decide) ?_
          refine R_callS3 (k2 := kX1_in) dX1_mark_37 rfl gX1_mark_X1_in kkX1_in (Nat.le_of_ble_eq_true rfl) (c_X1_in (by omega) (fun b37 => ?_) (fun b37 => ?_))
          · show R _ _ _ _ 40 _ [_] _ _ _
            refine R_if_ne (tgt := 46) (by decide) dX1_mark_40 (by decide) (fun _ => ?_) (fun h => absurd h (by decide))
            refine R_bipush dX1_mark_46 (by decide) ?_
            refine R_iload_n dX1_mark_48 rfl ?_
            refine R_imul dX1_mark_49 ?_
            refine R_bipush dX1_mark_50 (by decide) ?_
            refine R_iload_n dX1_mark_52 rfl ?_
            refine R_imul dX1_mark_53 ?_
            refine R_iadd dX1_mark_54 ?_
            refine R_iload_n dX1_mark_55 rfl ?_
            refine R_iadd dX1_mark_56 ?_
            refine R_istore dX1_mark_57 rfl rfl ?_
            refine R_aload_n dX1_mark_59 rfl ?_
            refine R_getR fX1_mark_16 dX1_mark_60 ?_
            refine R_iload dX1_mark_63 rfl ?_
            refine R_iald (q := 1) rfl rfl (by omega) rfl dX1_mark_65 ?_
            refine R_istore dX1_mark_66 rfl rfl ?_
            refine R_aload_n dX1_mark_68 rfl ?_
            refine R_getR fX1_mark_16 dX1_mark_69 ?_
            refine R_iload dX1_mark_72 rfl ?_
            refine R_iload dX1_mark_74 rfl ?_
            refine R_iast (q := 1) GMok rfl rfl (by omega) rfl dX1_mark_76 ?_
            refine R_iload dX1_mark_77 rfl ?_
            refine R_iret rfl dX1_mark_79 ?_
            exact hQ _ _ _ (by unfold fMmark; first | rw [if_pos (by omega)] | rw [if_neg (by omega), if_pos (by omega)] | rw [if_neg (by omega), if_neg (by omega), if_pos (by omega)] | rw [if_neg (by omega), if_neg (by omega), if_neg (by omega)] | rw [if_neg (by omega), if_neg (by omega)] | rw [if_neg (by omega)]) (by unfold tMmark; first | rw [if_pos (by omega)] | rw [if_neg (by omega), if_pos (by omega)] | rw [if_neg (by omega), if_neg (by omega), if_pos (by omega)] | rw [if_neg (by omega), if_neg (by omega), if_neg (by omega)] | rw [if_neg (by omega), if_neg (by omega)] | rw [if_neg (by omega)])
          · show R _ _ _ _ 40 _ [_] _ _ _
            refine R_if_ne (tgt := 46) (by decide) dX1_mark_40 (by decide) (fun h => absurd h (by decide)) (fun _ => ?_)
            refine R_bipush dX1_mark_43 (by decide) ?_
            refine R_iret rfl dX1_mark_45 ?_
            exact hQ _ _ _ (by unfold fMmark; first | rw [if_pos (by omega)] | rw [if_neg (by omega), if_pos (by omega)] | rw [if_neg (by omega), if_neg (by omega), if_pos (by omega)] | rw [if_neg (by omega), if_neg (by omega), if_neg (by omega)] | rw [if_neg (by omega), if_neg (by omega)] | rw [if_neg (by omega)]) (by unfold tMmark; first | rw [if_pos (by omega)] | rw [if_neg (by omega), if_pos (by omega)] | rw [if_neg (by omega), if_neg (by omega), if_pos (by omega)] | rw [if_neg (by omega), if_neg (by omega), if_neg (by omega)] | rw [if_neg (by omega), if_neg (by omega)] | rw [if_neg (by omega)])
      · show R _ _ _ _ 20 _ [_] _ _ _
        refine R_if_ne (tgt := 26) (by decide) dX1_mark_20 (by decide) (fun h => absurd h (by decide)) (fun _ => ?_)
        refine R_bipush dX1_mark_23 (by decide) ?_
        refine R_iret rfl dX1_mark_25 ?_
        exact hQ _ _ _ (by unfold fMmark; first | rw [if_pos (by omega)] | rw [if_neg (by omega), if_pos (by omega)] | rw [if_neg (by omega), if_neg (by omega), if_pos (by omega)] | rw [if_neg (by omega), if_neg (by omega), if_neg (by omega)] | rw [if_neg (by omega), if_neg (by omega)] | rw [if_neg (by omega)]) (by unfold tMmark; first | rw [if_pos (by omega)] | rw [if_neg (by omega), if_pos (by omega)] | rw [if_neg (by omega), if_neg (by omega), if_pos (by omega)] | rw [if_neg (by omega), if_neg (by omega), if_neg (by omega)] | rw [if_neg (by omega), if_neg (by omega)] | rw [if_neg (by omega)])
    · show R _ _ _ _ 12 _ [_] _ _ _
      refine R_if_eq (tgt := 23) (by decide) dX1_mark_12 (by decide) (fun _ => ?_) (fun h => absurd h (by decide))
      refine R_bipush dX1_mark_23 (by decide) ?_
      refine R_iret rfl dX1_mark_25 ?_
      exact hQ _ _ _ (by unfold fMmark; first | rw [if_pos (by omega)] | rw [if_neg (by omega), if_pos (by omega)] | rw [if_neg (by omega), if_neg (by omega), if_pos (by omega)] | rw [if_neg (by omega), if_neg (by omega), if_neg (by omega)] | rw [if_neg (by omega), if_neg (by omega)] | rw [if_neg (by omega)]) (by unfold tMmark; first | rw [if_pos (by omega)] | rw [if_neg (by omega), if_pos (by omega)] | rw [if_neg (by omega), if_neg (by omega), if_pos (by omega)] | rw [if_neg (by omega), if_neg (by omega), if_neg (by omega)] | rw [if_neg (by omega), if_neg (by omega)] | rw [if_neg (by omega)])
  · show R _ _ _ _ 4 _ [_] _ _ _
    refine R_if_eq (tgt := 23) (by decide) dX1_mark_4 (by decide) (fun _ => ?_) (fun h => absurd h (by decide))
    refine R_bipush dX1_mark_23 (by decide) ?_
    refine R_iret rfl dX1_mark_25 ?_
    exact hQ _ _ _ (by unfold fMmark; first | rw [if_pos (by omega)] | rw [if_neg (by omega), if_pos (by omega)] | rw [if_neg (by omega), if_neg (by omega), if_pos (by omega)] | rw [if_neg (by omega), if_neg (by omega), if_neg (by omega)] | rw [if_neg (by omega), if_neg (by omega)] | rw [if_neg (by omega)]) (by unfold tMmark; first | rw [if_pos (by omega)] | rw [if_neg (by omega), if_pos (by omega)] | rw [if_neg (by omega), if_neg (by omega), if_pos (by omega)] | rw [if_neg (by omega), if_neg (by omega), if_neg (by omega)] | rw [if_neg (by omega), if_neg (by omega)] | rw [if_neg (by omega)])

def fMyes (τ : Sf) (r j p b : Int) : Int := if r < 0 ∨ 2 < r ∨ j < 0 ∨ τ 21 0 ≤ j ∨ p < 0 ∨ τ 20 0 ≤ p then -101 else τ 2 (70 * r + 10 * j + p)
def tMyes (τ : Sf) (r j p b : Int) : Sf := if r < 0 ∨ 2 < r ∨ j < 0 ∨ τ 21 0 ≤ j ∨ p < 0 ∨ τ 20 0 ≤ p then τ else up τ 2 (70 * r + 10 * j + p) b
set_option maxHeartbeats 4000000 in
set_option maxRecDepth 100000 in
theorem c_X1_yes {E : Ev} {d : Nat} {τ ζ : Sf} {Q : Option Value → Sf → Sf → Prop} {r j p b : Int} (hI : InvM τ) (hrg : (-2147483648 ≤ r ∧ r < 2147483648) ∧ (-2147483648 ≤ j ∧ j < 2147483648) ∧ (-2147483648 ≤ p ∧ p < 2147483648)) (hzb : b = 0 ∨ b = 1) (hQ : ∀ (z : Int) (τ' ζ' : Sf), z = fMyes τ r j p b → τ' = tMyes τ r j p b → Q (some (.int (zI z))) τ' ζ') : C E GM kX1_yes (d + 2) [.ref (eAd E 0), .int (zI r), .int (zI j), .int (zI p), .int (zI b)] τ ζ Q := by
  refine C_of (by decide) rfl rfl ?_
  show R E GM kX1_yes (d + 2) 0 [some (.ref (eAd E 0)), some (.int (zI r)), some (.int (zI j)), some (.int (zI p)), some (.int (zI b)), none, none] [] τ ζ Q
  obtain ⟨hn, hm, hmk, hys, hpu, hcu, hpl, hwe, hpr, hmi, hwo, hco, hch, hhp⟩ := id hI
  have hc := hys (70 * r + 10 * j + p)
  refine R_iload_n dX1_yes_0 rfl ?_
  refine R_callS1 (k2 := kX1_isRound) dX1_yes_1 rfl gX1_yes_X1_isRound kkX1_isRound (Nat.le_of_ble_eq_true rfl) (c_X1_isRound (by omega) (fun b1 => ?_) (fun b1 => ?_))
  · show R _ _ _ _ 4 _ [_] _ _ _
    refine R_if_eq (tgt := 23) (by decide) dX1_yes_4 (by decide) (fun h => absurd h (by decide)) (fun _ => ?_)
    refine R_aload_n dX1_yes_7 rfl ?_
    refine R_iload_n dX1_yes_8 rfl ?_
    refine R_callV1 (k2 := kX1_isJuror) dX1_yes_9 rfl gX1_yes_X1_isJuror kkX1_isJuror rfl rfl (Nat.le_of_ble_eq_true rfl) (c_X1_isJuror hI (by omega) (fun b9 => ?_) (fun b9 => ?_))
    · show R _ _ _ _ 12 _ [_] _ _ _
      refine R_if_eq (tgt := 23) (by decide) dX1_yes_12 (by decide) (fun h => absurd h (by decide)) (fun _ => ?_)
      refine R_aload_n dX1_yes_15 rfl ?_
      refine R_iload_n dX1_yes_16 rfl ?_
      refine R_callV1 (k2 := kX1_isPlayer) dX1_yes_17 rfl gX1_yes_X1_isPlayer kkX1_isPlayer rfl rfl (Nat.le_of_ble_eq_true rfl) (c_X1_isPlayer hI (by omega) (fun b17 => ?_) (fun b17 => ?_))
      · show R _ _ _ _ 20 _ [_] _ _ _
        refine R_if_ne (tgt := 26) (by decide) dX1_yes_20 (by decide) (fun _ => ?_) (fun h => absurd h (by decide))
        refine R_bipush dX1_yes_26 (by decide) ?_
        refine R_iload_n dX1_yes_28 rfl ?_
        refine R_imul dX1_yes_29 ?_
        refine R_bipush dX1_yes_30 (by decide) ?_
        refine R_iload_n dX1_yes_32 rfl ?_
        refine R_imul dX1_yes_33 ?_
        refine R_iadd dX1_yes_34 ?_
        refine R_iload_n dX1_yes_35 rfl ?_
        refine R_iadd dX1_yes_36 ?_
        refine R_istore dX1_yes_37 rfl rfl ?_
        refine R_aload_n dX1_yes_39 rfl ?_
        refine R_getR fX1_yes_20 dX1_yes_40 ?_
        refine R_iload dX1_yes_43 rfl ?_
        refine R_bald (q := 2) rfl rfl rfl (by omega) rfl dX1_yes_45 ?_
        refine R_if_eq (tgt := 53) (by omega) dX1_yes_46 (by decide) (fun c46 => ?_) (fun c46 => ?_)
        · refine R_iconst dX1_yes_53 ?_
          refine R_istore dX1_yes_54 rfl rfl ?_
          refine R_aload_n dX1_yes_56 rfl ?_
          refine R_getR fX1_yes_20 dX1_yes_57 ?_
          refine R_iload dX1_yes_60 rfl ?_
          refine R_iload dX1_yes_62 rfl ?_
          refine R_bast (q := 2) GMok rfl rfl (by omega) rfl (by omega) rfl dX1_yes_64 ?_
          refine R_iload dX1_yes_65 rfl ?_
          refine R_iret rfl dX1_yes_67 ?_
          exact hQ _ _ _ (by unfold fMyes; first | rw [if_pos (by omega)] | (rw [if_neg (by omega)]; omega)) (by unfold tMyes; first | rw [if_pos (by omega)] | rw [if_neg (by omega), if_pos (by omega)] | rw [if_neg (by omega), if_neg (by omega), if_pos (by omega)] | rw [if_neg (by omega), if_neg (by omega), if_neg (by omega)] | rw [if_neg (by omega), if_neg (by omega)] | rw [if_neg (by omega)])
        · refine R_iconst dX1_yes_49 ?_
          refine R_goto (tgt := 54) dX1_yes_50 (by decide) ?_
          refine R_istore dX1_yes_54 rfl rfl ?_
          refine R_aload_n dX1_yes_56 rfl ?_
          refine R_getR fX1_yes_20 dX1_yes_57 ?_
          refine R_iload dX1_yes_60 rfl ?_
          refine R_iload dX1_yes_62 rfl ?_
          refine R_bast (q := 2) GMok rfl rfl (by omega) rfl (by omega) rfl dX1_yes_64 ?_
          refine R_iload dX1_yes_65 rfl ?_
          refine R_iret rfl dX1_yes_67 ?_
          exact hQ _ _ _ (by unfold fMyes; first | rw [if_pos (by omega)] | (rw [if_neg (by omega)]; omega)) (by unfold tMyes; first | rw [if_pos (by omega)] | rw [if_neg (by omega), if_pos (by omega)] | rw [if_neg (by omega), if_neg (by omega), if_pos (by omega)] | rw [if_neg (by omega), if_neg (by omega), if_neg (by omega)] | rw [if_neg (by omega), if_neg (by omega)] | rw [if_neg (by omega)])
      · show R _ _ _ _ 20 _ [_] _ _ _
        refine R_if_ne (tgt := 26) (by decide) dX1_yes_20 (by decide) (fun h => absurd h (by decide)) (fun _ => ?_)
        refine R_bipush dX1_yes_23 (by decide) ?_
        refine R_iret rfl dX1_yes_25 ?_
        exact hQ _ _ _ (by unfold fMyes; first | rw [if_pos (by omega)] | rw [if_neg (by omega), if_pos (by omega)] | rw [if_neg (by omega), if_neg (by omega), if_pos (by omega)] | rw [if_neg (by omega), if_neg (by omega), if_neg (by omega)] | rw [if_neg (by omega), if_neg (by omega)] | rw [if_neg (by omega)]) (by unfold tMyes; first | rw [if_pos (by omega)] | rw [if_neg (by omega), if_pos (by omega)] | rw [if_neg (by omega), if_neg (by omega), if_pos (by omega)] | rw [if_neg (by omega), if_neg (by omega), if_neg (by omega)] | rw [if_neg (by omega), if_neg (by omega)] | rw [if_neg (by omega)])
    · show R _ _ _ _ 12 _ [_] _ _ _
      refine R_if_eq (tgt := 23) (by decide) dX1_yes_12 (by decide) (fun _ => ?_) (fun h => absurd h (by decide))
      refine R_bipush dX1_yes_23 (by decide) ?_
      refine R_iret rfl dX1_yes_25 ?_
      exact hQ _ _ _ (by unfold fMyes; first | rw [if_pos (by omega)] | rw [if_neg (by omega), if_pos (by omega)] | rw [if_neg (by omega), if_neg (by omega), if_pos (by omega)] | rw [if_neg (by omega), if_neg (by omega), if_neg (by omega)] | rw [if_neg (by omega), if_neg (by omega)] | rw [if_neg (by omega)]) (by unfold tMyes; first | rw [if_pos (by omega)] | rw [if_neg (by omega), if_pos (by omega)] | rw [if_neg (by omega), if_neg (by omega), if_pos (by omega)] | rw [if_neg (by omega), if_neg (by omega), if_neg (by omega)] | rw [if_neg (by omega), if_neg (by omega)] | rw [if_neg (by omega)])
  · show R _ _ _ _ 4 _ [_] _ _ _
    refine R_if_eq (tgt := 23) (by decide) dX1_yes_4 (by decide) (fun _ => ?_) (fun h => absurd h (by decide))
    refine R_bipush dX1_yes_23 (by decide) ?_
    refine R_iret rfl dX1_yes_25 ?_
    exact hQ _ _ _ (by unfold fMyes; first | rw [if_pos (by omega)] | rw [if_neg (by omega), if_pos (by omega)] | rw [if_neg (by omega), if_neg (by omega), if_pos (by omega)] | rw [if_neg (by omega), if_neg (by omega), if_neg (by omega)] | rw [if_neg (by omega), if_neg (by omega)] | rw [if_neg (by omega)]) (by unfold tMyes; first | rw [if_pos (by omega)] | rw [if_neg (by omega), if_pos (by omega)] | rw [if_neg (by omega), if_neg (by omega), if_pos (by omega)] | rw [if_neg (by omega), if_neg (by omega), if_neg (by omega)] | rw [if_neg (by omega), if_neg (by omega)] | rw [if_neg (by omega)])

def fMpupil (τ : Sf) (j p b : Int) : Int := if j < 0 ∨ τ 21 0 ≤ j ∨ p < 0 ∨ τ 20 0 ≤ p then -101 else τ 3 (10 * j + p)
def tMpupil (τ : Sf) (j p b : Int) : Sf := if j < 0 ∨ τ 21 0 ≤ j ∨ p < 0 ∨ τ 20 0 ≤ p then τ else up τ 3 (10 * j + p) b
set_option maxHeartbeats 4000000 in
set_option maxRecDepth 100000 in
theorem c_X1_pupil {E : Ev} {d : Nat} {τ ζ : Sf} {Q : Option Value → Sf → Sf → Prop} {j p b : Int} (hI : InvM τ) (hrg : (-2147483648 ≤ j ∧ j < 2147483648) ∧ (-2147483648 ≤ p ∧ p < 2147483648)) (hzb : b = 0 ∨ b = 1) (hQ : ∀ (z : Int) (τ' ζ' : Sf), z = fMpupil τ j p b → τ' = tMpupil τ j p b → Q (some (.int (zI z))) τ' ζ') : C E GM kX1_pupil (d + 2) [.ref (eAd E 0), .int (zI j), .int (zI p), .int (zI b)] τ ζ Q := by
  refine C_of (by decide) rfl rfl ?_
  show R E GM kX1_pupil (d + 2) 0 [some (.ref (eAd E 0)), some (.int (zI j)), some (.int (zI p)), some (.int (zI b)), none] [] τ ζ Q
  obtain ⟨hn, hm, hmk, hys, hpu, hcu, hpl, hwe, hpr, hmi, hwo, hco, hch, hhp⟩ := id hI
  have hc := hpu (10 * j + p)
  refine R_aload_n dX1_pupil_0 rfl ?_
  refine R_iload_n dX1_pupil_1 rfl ?_
  refine R_callV1 (k2 := kX1_isJuror) dX1_pupil_2 rfl gX1_pupil_X1_isJuror kkX1_isJuror rfl rfl (Nat.le_of_ble_eq_true rfl) (c_X1_isJuror hI (by omega) (fun b2 => ?_) (fun b2 => ?_))
  · show R _ _ _ _ 5 _ [_] _ _ _
    refine R_if_eq (tgt := 16) (by decide) dX1_pupil_5 (by decide) (fun h => absurd h (by decide)) (fun _ => ?_)
    refine R_aload_n dX1_pupil_8 rfl ?_
    refine R_iload_n dX1_pupil_9 rfl ?_
    refine R_callV1 (k2 := kX1_isPlayer) dX1_pupil_10 rfl gX1_pupil_X1_isPlayer kkX1_isPlayer rfl rfl (Nat.le_of_ble_eq_true rfl) (c_X1_isPlayer hI (by omega) (fun b10 => ?_) (fun b10 => ?_))
    · show R _ _ _ _ 13 _ [_] _ _ _
      refine R_if_ne (tgt := 19) (by decide) dX1_pupil_13 (by decide) (fun _ => ?_) (fun h => absurd h (by decide))
      refine R_aload_n dX1_pupil_19 rfl ?_
      refine R_getR fX1_pupil_24 dX1_pupil_20 ?_
      refine R_bipush dX1_pupil_23 (by decide) ?_
      refine R_iload_n dX1_pupil_25 rfl ?_
      refine R_imul dX1_pupil_26 ?_
      refine R_iload_n dX1_pupil_27 rfl ?_
      refine R_iadd dX1_pupil_28 ?_
      refine R_bald (q := 3) rfl rfl rfl (by omega) rfl dX1_pupil_29 ?_
      refine R_if_eq (tgt := 37) (by omega) dX1_pupil_30 (by decide) (fun c30 => ?_) (fun c30 => ?_)
      · refine R_iconst dX1_pupil_37 ?_
        refine R_istore dX1_pupil_38 rfl rfl ?_
        refine R_aload_n dX1_pupil_40 rfl ?_
        refine R_getR fX1_pupil_24 dX1_pupil_41 ?_
        refine R_bipush dX1_pupil_44 (by decide) ?_
        refine R_iload_n dX1_pupil_46 rfl ?_
        refine R_imul dX1_pupil_47 ?_
        refine R_iload_n dX1_pupil_48 rfl ?_
        refine R_iadd dX1_pupil_49 ?_
        refine R_iload_n dX1_pupil_50 rfl ?_
        refine R_bast (q := 3) GMok rfl rfl (by omega) rfl (by omega) rfl dX1_pupil_51 ?_
        refine R_iload dX1_pupil_52 rfl ?_
        refine R_iret rfl dX1_pupil_54 ?_
        exact hQ _ _ _ (by unfold fMpupil; first | rw [if_pos (by omega)] | (rw [if_neg (by omega)]; omega)) (by unfold tMpupil; first | rw [if_pos (by omega)] | rw [if_neg (by omega), if_pos (by omega)] | rw [if_neg (by omega), if_neg (by omega), if_pos (by omega)] | rw [if_neg (by omega), if_neg (by omega), if_neg (by omega)] | rw [if_neg (by omega), if_neg (by omega)] | rw [if_neg (by omega)])
      · refine R_iconst dX1_pupil_33 ?_
        refine R_goto (tgt := 38) dX1_pupil_34 (by decide) ?_
        refine R_istore dX1_pupil_38 rfl rfl ?_
        refine R_aload_n dX1_pupil_40 rfl ?_
        refine R_getR fX1_pupil_24 dX1_pupil_41 ?_
        refine R_bipush dX1_pupil_44 (by decide) ?_
        refine R_iload_n dX1_pupil_46 rfl ?_
        refine R_imul dX1_pupil_47 ?_
        refine R_iload_n dX1_pupil_48 rfl ?_
        refine R_iadd dX1_pupil_49 ?_
        refine R_iload_n dX1_pupil_50 rfl ?_
        refine R_bast (q := 3) GMok rfl rfl (by omega) rfl (by omega) rfl dX1_pupil_51 ?_
        refine R_iload dX1_pupil_52 rfl ?_
        refine R_iret rfl dX1_pupil_54 ?_
        exact hQ _ _ _ (by unfold fMpupil; first | rw [if_pos (by omega)] | (rw [if_neg (by omega)]; omega)) (by unfold tMpupil; first | rw [if_pos (by omega)] | rw [if_neg (by omega), if_pos (by omega)] | rw [if_neg (by omega), if_neg (by omega), if_pos (by omega)] | rw [if_neg (by omega), if_neg (by omega), if_neg (by omega)] | rw [if_neg (by omega), if_neg (by omega)] | rw [if_neg (by omega)])
    · show R _ _ _ _ 13 _ [_] _ _ _
      refine R_if_ne (tgt := 19) (by decide) dX1_pupil_13 (by decide) (fun h => absurd h (by decide)) (fun _ => ?_)
      refine R_bipush dX1_pupil_16 (by decide) ?_
      refine R_iret rfl dX1_pupil_18 ?_
      exact hQ _ _ _ (by unfold fMpupil; first | rw [if_pos (by omega)] | rw [if_neg (by omega), if_pos (by omega)] | rw [if_neg (by omega), if_neg (by omega), if_pos (by omega)] | rw [if_neg (by omega), if_neg (by omega), if_neg (by omega)] | rw [if_neg (by omega), if_neg (by omega)] | rw [if_neg (by omega)]) (by unfold tMpupil; first | rw [if_pos (by omega)] | rw [if_neg (by omega), if_pos (by omega)] | rw [if_neg (by omega), if_neg (by omega), if_pos (by omega)] | rw [if_neg (by omega), if_neg (by omega), if_neg (by omega)] | rw [if_neg (by omega), if_neg (by omega)] | rw [if_neg (by omega)])
  · show R _ _ _ _ 5 _ [_] _ _ _
    refine R_if_eq (tgt := 16) (by decide) dX1_pupil_5 (by decide) (fun _ => ?_) (fun h => absurd h (by decide))
    refine R_bipush dX1_pupil_16 (by decide) ?_
    refine R_iret rfl dX1_pupil_18 ?_
    exact hQ _ _ _ (by unfold fMpupil; first | rw [if_pos (by omega)] | rw [if_neg (by omega), if_pos (by omega)] | rw [if_neg (by omega), if_neg (by omega), if_pos (by omega)] | rw [if_neg (by omega), if_neg (by omega), if_neg (by omega)] | rw [if_neg (by omega), if_neg (by omega)] | rw [if_neg (by omega)]) (by unfold tMpupil; first | rw [if_pos (by omega)] | rw [if_neg (by omega), if_pos (by omega)] | rw [if_neg (by omega), if_neg (by omega), if_pos (by omega)] | rw [if_neg (by omega), if_neg (by omega), if_neg (by omega)] | rw [if_neg (by omega), if_neg (by omega)] | rw [if_neg (by omega)])

def fMrule (τ : Sf) (w v : Int) : Int := if w < 0 ∨ 1 < w then -101 else if (w = 0 ∧ (v < 0 ∨ 2 < v)) ∨ (w = 1 ∧ (v < 1 ∨ 50 < v)) then -102 else if w = 0 then τ 25 0 else τ 26 0
def tMrule (τ : Sf) (w v : Int) : Sf := if w < 0 ∨ 1 < w then τ else if (w = 0 ∧ (v < 0 ∨ 2 < v)) ∨ (w = 1 ∧ (v < 1 ∨ 50 < v)) then τ else if w = 0 then up τ 25 0 v else up τ 26 0 v
set_option maxHeartbeats 4000000 in
set_option maxRecDepth 100000 in
theorem c_X1_rule {E : Ev} {d : Nat} {τ ζ : Sf} {Q : Option Value → Sf → Sf → Prop} {w v : Int} (hI : InvM τ) (hrg : (-2147483648 ≤ w ∧ w < 2147483648) ∧ (-2147483648 ≤ v ∧ v < 2147483648)) (hQ : ∀ (z : Int) (τ' ζ' : Sf), z = fMrule τ w v → τ' = tMrule τ w v → Q (some (.int (zI z))) τ' ζ') : C E GM kX1_rule (d + 1) [.ref (eAd E 0), .int (zI w), .int (zI v)] τ ζ Q := by
  refine C_of (by decide) rfl rfl ?_
  show R E GM kX1_rule (d + 1) 0 [some (.ref (eAd E 0)), some (.int (zI w)), some (.int (zI v)), none] [] τ ζ Q
  obtain ⟨hn, hm, hmk, hys, hpu, hcu, hpl, hwe, hpr, hmi, hwo, hco, hch, hhp⟩ := id hI
  refine R_iload_n dX1_rule_0 rfl ?_
  refine R_iconst dX1_rule_1 ?_
  refine R_iconst dX1_rule_2 ?_
  refine R_callS3 (k2 := kX1_in) dX1_rule_3 rfl gX1_rule_X1_in kkX1_in (Nat.le_of_ble_eq_true rfl) (c_X1_in (by omega) (fun b3 => ?_) (fun b3 => ?_))
  · show R _ _ _ _ 6 _ [_] _ _ _
    refine R_if_ne (tgt := 12) (by decide) dX1_rule_6 (by decide) (fun _ => ?_) (fun h => absurd h (by decide))
    refine R_iload_n dX1_rule_12 rfl ?_
    refine R_if_ne (tgt := 28) (by omega) dX1_rule_13 (by decide) (fun c13 => ?_) (fun c13 => ?_)
    · refine R_iload_n dX1_rule_28 rfl ?_
      refine R_iconst dX1_rule_29 ?_
      refine R_bipush dX1_rule_30 (by decide) ?_
      refine R_callS3 (k2 := kX1_in) dX1_rule_32 rfl gX1_rule_X1_in kkX1_in (Nat.le_of_ble_eq_true rfl) (c_X1_in (by omega) (fun b32 => ?_) (fun b32 => ?_))
      · show R _ _ _ _ 35 _ [_] _ _ _
        refine R_if_ne (tgt := 41) (by decide) dX1_rule_35 (by decide) (fun _ => ?_) (fun h => absurd h (by decide))
        refine R_iload_n dX1_rule_41 rfl ?_
        refine R_if_ne (tgt := 52) (by omega) dX1_rule_42 (by decide) (fun c42 => ?_) (fun c42 => ?_)
        · refine R_aload_n dX1_rule_52 rfl ?_
          refine R_getI 26 fX1_rule_30 rfl rfl dX1_rule_53 ?_
          refine R_istore_n dX1_rule_56 rfl rfl ?_
          refine R_aload_n dX1_rule_57 rfl ?_
          refine R_iload_n dX1_rule_58 rfl ?_
          refine R_if_ne (tgt := 66) (by omega) dX1_rule_59 (by decide) (fun c59 => ?_) (fun c59 => ?_)
          · refine R_aload_n dX1_rule_66 rfl ?_
            refine R_getI 25 fX1_rule_27 rfl rfl dX1_rule_67 ?_
            refine R_putI 25 fX1_rule_27 rfl rfl rfl (by decide +kernel) dX1_rule_70 ?_
            refine R_aload_n dX1_rule_73 rfl ?_
            refine R_iload_n dX1_rule_74 rfl ?_
            refine R_iconst dX1_rule_75 ?_
            refine R_icmp_ne (tgt := 83) (by omega) dX1_rule_76 (by decide) (fun c76 => ?_) (fun c76 => ?_)
            · refine R_aload_n dX1_rule_83 rfl ?_
              refine R_getI 26 fX1_rule_30 rfl rfl dX1_rule_84 ?_
              refine R_putI 26 fX1_rule_30 rfl rfl rfl (by decide +kernel) dX1_rule_87 ?_
              refine R_iload_n dX1_rule_90 rfl ?_
              refine R_iret rfl dX1_rule_91 ?_
              first
              | (exfalso; omega)
              | (rw [up_id (f := up τ 25 0 v) rfl]
                 exact hQ _ _ _ (by unfold fMrule; first | rw [if_pos (by omega)] | rw [if_neg (by omega), if_pos (by omega)] | rw [if_neg (by omega), if_neg (by omega), if_pos (by omega)] | rw [if_neg (by omega), if_neg (by omega), if_neg (by omega)] | rw [if_neg (by omega), if_neg (by omega)] | rw [if_neg (by omega)]) (by unfold tMrule; first | rw [if_pos (by omega)] | rw [if_neg (by omega), if_pos (by omega)] | rw [if_neg (by omega), if_neg (by omega), if_pos (by omega)] | rw [if_neg (by omega), if_neg (by omega), if_neg (by omega)] | rw [if_neg (by omega), if_neg (by omega)] | rw [if_neg (by omega)]))
              | (rw [up_id (f := τ) (k := 25) rfl]
                 exact hQ _ _ _ (by unfold fMrule; first | rw [if_pos (by omega)] | rw [if_neg (by omega), if_pos (by omega)] | rw [if_neg (by omega), if_neg (by omega), if_pos (by omega)] | rw [if_neg (by omega), if_neg (by omega), if_neg (by omega)] | rw [if_neg (by omega), if_neg (by omega)] | rw [if_neg (by omega)]) (by unfold tMrule; first | rw [if_pos (by omega)] | rw [if_neg (by omega), if_pos (by omega)] | rw [if_neg (by omega), if_neg (by omega), if_pos (by omega)] | rw [if_neg (by omega), if_neg (by omega), if_neg (by omega)] | rw [if_neg (by omega), if_neg (by omega)] | rw [if_neg (by omega)]))
            · refine R_iload_n dX1_rule_79 rfl ?_
              refine R_goto (tgt := 87) dX1_rule_80 (by decide) ?_
              refine R_putI 26 fX1_rule_30 rfl rfl rfl (by decide +kernel) dX1_rule_87 ?_
              refine R_iload_n dX1_rule_90 rfl ?_
              refine R_iret rfl dX1_rule_91 ?_
              first
              | (exfalso; omega)
              | (rw [up_id (f := up τ 25 0 v) rfl]
                 exact hQ _ _ _ (by unfold fMrule; first | rw [if_pos (by omega)] | rw [if_neg (by omega), if_pos (by omega)] | rw [if_neg (by omega), if_neg (by omega), if_pos (by omega)] | rw [if_neg (by omega), if_neg (by omega), if_neg (by omega)] | rw [if_neg (by omega), if_neg (by omega)] | rw [if_neg (by omega)]) (by unfold tMrule; first | rw [if_pos (by omega)] | rw [if_neg (by omega), if_pos (by omega)] | rw [if_neg (by omega), if_neg (by omega), if_pos (by omega)] | rw [if_neg (by omega), if_neg (by omega), if_neg (by omega)] | rw [if_neg (by omega), if_neg (by omega)] | rw [if_neg (by omega)]))
              | (rw [up_id (f := τ) (k := 25) rfl]
                 exact hQ _ _ _ (by unfold fMrule; first | rw [if_pos (by omega)] | rw [if_neg (by omega), if_pos (by omega)] | rw [if_neg (by omega), if_neg (by omega), if_pos (by omega)] | rw [if_neg (by omega), if_neg (by omega), if_neg (by omega)] | rw [if_neg (by omega), if_neg (by omega)] | rw [if_neg (by omega)]) (by unfold tMrule; first | rw [if_pos (by omega)] | rw [if_neg (by omega), if_pos (by omega)] | rw [if_neg (by omega), if_neg (by omega), if_pos (by omega)] | rw [if_neg (by omega), if_neg (by omega), if_neg (by omega)] | rw [if_neg (by omega), if_neg (by omega)] | rw [if_neg (by omega)]))
          · refine R_iload_n dX1_rule_62 rfl ?_
            refine R_goto (tgt := 70) dX1_rule_63 (by decide) ?_
            refine R_putI 25 fX1_rule_27 rfl rfl rfl (by decide +kernel) dX1_rule_70 ?_
            refine R_aload_n dX1_rule_73 rfl ?_
            refine R_iload_n dX1_rule_74 rfl ?_
            refine R_iconst dX1_rule_75 ?_
            refine R_icmp_ne (tgt := 83) (by omega) dX1_rule_76 (by decide) (fun c76 => ?_) (fun c76 => ?_)
            · refine R_aload_n dX1_rule_83 rfl ?_
              refine R_getI 26 fX1_rule_30 rfl rfl dX1_rule_84 ?_
              refine R_putI 26 fX1_rule_30 rfl rfl rfl (by decide +kernel) dX1_rule_87 ?_
              refine R_iload_n dX1_rule_90 rfl ?_
              refine R_iret rfl dX1_rule_91 ?_
              first
              | (exfalso; omega)
              | (rw [up_id (f := up τ 25 0 v) rfl]
                 exact hQ _ _ _ (by unfold fMrule; first | rw [if_pos (by omega)] | rw [if_neg (by omega), if_pos (by omega)] | rw [if_neg (by omega), if_neg (by omega), if_pos (by omega)] | rw [if_neg (by omega), if_neg (by omega), if_neg (by omega)] | rw [if_neg (by omega), if_neg (by omega)] | rw [if_neg (by omega)]) (by unfold tMrule; first | rw [if_pos (by omega)] | rw [if_neg (by omega), if_pos (by omega)] | rw [if_neg (by omega), if_neg (by omega), if_pos (by omega)] | rw [if_neg (by omega), if_neg (by omega), if_neg (by omega)] | rw [if_neg (by omega), if_neg (by omega)] | rw [if_neg (by omega)]))
              | (rw [up_id (f := τ) (k := 25) rfl]
                 exact hQ _ _ _ (by unfold fMrule; first | rw [if_pos (by omega)] | rw [if_neg (by omega), if_pos (by omega)] | rw [if_neg (by omega), if_neg (by omega), if_pos (by omega)] | rw [if_neg (by omega), if_neg (by omega), if_neg (by omega)] | rw [if_neg (by omega), if_neg (by omega)] | rw [if_neg (by omega)]) (by unfold tMrule; first | rw [if_pos (by omega)] | rw [if_neg (by omega), if_pos (by omega)] | rw [if_neg (by omega), if_neg (by omega), if_pos (by omega)] | rw [if_neg (by omega), if_neg (by omega), if_neg (by omega)] | rw [if_neg (by omega), if_neg (by omega)] | rw [if_neg (by omega)]))
            · refine R_iload_n dX1_rule_79 rfl ?_
              refine R_goto (tgt := 87) dX1_rule_80 (by decide) ?_
              refine R_putI 26 fX1_rule_30 rfl rfl rfl (by decide +kernel) dX1_rule_87 ?_
              refine R_iload_n dX1_rule_90 rfl ?_
              refine R_iret rfl dX1_rule_91 ?_
              first
              | (exfalso; omega)
              | (rw [up_id (f := up τ 25 0 v) rfl]
                 exact hQ _ _ _ (by unfold fMrule; first | rw [if_pos (by omega)] | rw [if_neg (by omega), if_pos (by omega)] | rw [if_neg (by omega), if_neg (by omega), if_pos (by omega)] | rw [if_neg (by omega), if_neg (by omega), if_neg (by omega)] | rw [if_neg (by omega), if_neg (by omega)] | rw [if_neg (by omega)]) (by unfold tMrule; first | rw [if_pos (by omega)] | rw [if_neg (by omega), if_pos (by omega)] | rw [if_neg (by omega), if_neg (by omega), if_pos (by omega)] | rw [if_neg (by omega), if_neg (by omega), if_neg (by omega)] | rw [if_neg (by omega), if_neg (by omega)] | rw [if_neg (by omega)]))
              | (rw [up_id (f := τ) (k := 25) rfl]
                 exact hQ _ _ _ (by unfold fMrule; first | rw [if_pos (by omega)] | rw [if_neg (by omega), if_pos (by omega)] | rw [if_neg (by omega), if_neg (by omega), if_pos (by omega)] | rw [if_neg (by omega), if_neg (by omega), if_neg (by omega)] | rw [if_neg (by omega), if_neg (by omega)] | rw [if_neg (by omega)]) (by unfold tMrule; first | rw [if_pos (by omega)] | rw [if_neg (by omega), if_pos (by omega)] | rw [if_neg (by omega), if_neg (by omega), if_pos (by omega)] | rw [if_neg (by omega), if_neg (by omega), if_neg (by omega)] | rw [if_neg (by omega), if_neg (by omega)] | rw [if_neg (by omega)]))
        · refine R_aload_n dX1_rule_45 rfl ?_
          refine R_getI 25 fX1_rule_27 rfl rfl dX1_rule_46 ?_
          refine R_goto (tgt := 56) dX1_rule_49 (by decide) ?_
          refine R_istore_n dX1_rule_56 rfl rfl ?_
          refine R_aload_n dX1_rule_57 rfl ?_
          refine R_iload_n dX1_rule_58 rfl ?_
          refine R_if_ne (tgt := 66) (by omega) dX1_rule_59 (by decide) (fun c59 => ?_) (fun c59 => ?_)
          · refine R_aload_n dX1_rule_66 rfl ?_
            refine R_getI 25 fX1_rule_27 rfl rfl dX1_rule_67 ?_
            refine R_putI 25 fX1_rule_27 rfl rfl rfl (by decide +kernel) dX1_rule_70 ?_
            refine R_aload_n dX1_rule_73 rfl ?_
            refine R_iload_n dX1_rule_74 rfl ?_
            refine R_iconst dX1_rule_75 ?_
            refine R_icmp_ne (tgt := 83) (by omega) dX1_rule_76 (by decide) (fun c76 => ?_) (fun c76 => ?_)
            · refine R_aload_n dX1_rule_83 rfl ?_
              refine R_getI 26 fX1_rule_30 rfl rfl dX1_rule_84 ?_
              refine R_putI 26 fX1_rule_30 rfl rfl rfl (by decide +kernel) dX1_rule_87 ?_
              refine R_iload_n dX1_rule_90 rfl ?_
              refine R_iret rfl dX1_rule_91 ?_
              first
              | (exfalso; omega)
              | (rw [up_id (f := up τ 25 0 v) rfl]
                 exact hQ _ _ _ (by unfold fMrule; first | rw [if_pos (by omega)] | rw [if_neg (by omega), if_pos (by omega)] | rw [if_neg (by omega), if_neg (by omega), if_pos (by omega)] | rw [if_neg (by omega), if_neg (by omega), if_neg (by omega)] | rw [if_neg (by omega), if_neg (by omega)] | rw [if_neg (by omega)]) (by unfold tMrule; first | rw [if_pos (by omega)] | rw [if_neg (by omega), if_pos (by omega)] | rw [if_neg (by omega), if_neg (by omega), if_pos (by omega)] | rw [if_neg (by omega), if_neg (by omega), if_neg (by omega)] | rw [if_neg (by omega), if_neg (by omega)] | rw [if_neg (by omega)]))
              | (rw [up_id (f := τ) (k := 25) rfl]
                 exact hQ _ _ _ (by unfold fMrule; first | rw [if_pos (by omega)] | rw [if_neg (by omega), if_pos (by omega)] | rw [if_neg (by omega), if_neg (by omega), if_pos (by omega)] | rw [if_neg (by omega), if_neg (by omega), if_neg (by omega)] | rw [if_neg (by omega), if_neg (by omega)] | rw [if_neg (by omega)]) (by unfold tMrule; first | rw [if_pos (by omega)] | rw [if_neg (by omega), if_pos (by omega)] | rw [if_neg (by omega), if_neg (by omega), if_pos (by omega)] | rw [if_neg (by omega), if_neg (by omega), if_neg (by omega)] | rw [if_neg (by omega), if_neg (by omega)] | rw [if_neg (by omega)]))
            · refine R_iload_n dX1_rule_79 rfl ?_
              refine R_goto (tgt := 87) dX1_rule_80 (by decide) ?_
              refine R_putI 26 fX1_rule_30 rfl rfl rfl (by decide +kernel) dX1_rule_87 ?_
              refine R_iload_n dX1_rule_90 rfl ?_
              refine R_iret rfl dX1_rule_91 ?_
              first
              | (exfalso; omega)
              | (rw [up_id (f := up τ 25 0 v) rfl]
                 exact hQ _ _ _ (by unfold fMrule; first | rw [if_pos (by omega)] | rw [if_neg (by omega), if_pos (by omega)] | rw [if_neg (by omega), if_neg (by omega), if_pos (by omega)] | rw [if_neg (by omega), if_neg (by omega), if_neg (by omega)] | rw [if_neg (by omega), if_neg (by omega)] | rw [if_neg (by omega)]) (by unfold tMrule; first | rw [if_pos (by omega)] | rw [if_neg (by omega), if_pos (by omega)] | rw [if_neg (by omega), if_neg (by omega), if_pos (by omega)] | rw [if_neg (by omega), if_neg (by omega), if_neg (by omega)] | rw [if_neg (by omega), if_neg (by omega)] | rw [if_neg (by omega)]))
              | (rw [up_id (f := τ) (k := 25) rfl]
                 exact hQ _ _ _ (by unfold fMrule; first | rw [if_pos (by omega)] | rw [if_neg (by omega), if_pos (by omega)] | rw [if_neg (by omega), if_neg (by omega), if_pos (by omega)] | rw [if_neg (by omega), if_neg (by omega), if_neg (by omega)] | rw [if_neg (by omega), if_neg (by omega)] | rw [if_neg (by omega)]) (by unfold tMrule; first | rw [if_pos (by omega)] | rw [if_neg (by omega), if_pos (by omega)] | rw [if_neg (by omega), if_neg (by omega), if_pos (by omega)] | rw [if_neg (by omega), if_neg (by omega), if_neg (by omega)] | rw [if_neg (by omega), if_neg (by omega)] | rw [if_neg (by omega)]))
          · refine R_iload_n dX1_rule_62 rfl ?_
            refine R_goto (tgt := 70) dX1_rule_63 (by decide) ?_
            refine R_putI 25 fX1_rule_27 rfl rfl rfl (by decide +kernel) dX1_rule_70 ?_
            refine R_aload_n dX1_rule_73 rfl ?_
            refine R_iload_n dX1_rule_74 rfl ?_
            refine R_iconst dX1_rule_75 ?_
            refine R_icmp_ne (tgt := 83) (by omega) dX1_rule_76 (by decide) (fun c76 => ?_) (fun c76 => ?_)
            · refine R_aload_n dX1_rule_83 rfl ?_
              refine R_getI 26 fX1_rule_30 rfl rfl dX1_rule_84 ?_
              refine R_putI 26 fX1_rule_30 rfl rfl rfl (by decide +kernel) dX1_rule_87 ?_
              refine R_iload_n dX1_rule_90 rfl ?_
              refine R_iret rfl dX1_rule_91 ?_
              first
              | (exfalso; omega)
              | (rw [up_id (f := up τ 25 0 v) rfl]
                 exact hQ _ _ _ (by unfold fMrule; first | rw [if_pos (by omega)] | rw [if_neg (by omega), if_pos (by omega)] | rw [if_neg (by omega), if_neg (by omega), if_pos (by omega)] | rw [if_neg (by omega), if_neg (by omega), if_neg (by omega)] | rw [if_neg (by omega), if_neg (by omega)] | rw [if_neg (by omega)]) (by unfold tMrule; first | rw [if_pos (by omega)] | rw [if_neg (by omega), if_pos (by omega)] | rw [if_neg (by omega), if_neg (by omega), if_pos (by omega)] | rw [if_neg (by omega), if_neg (by omega), if_neg (by omega)] | rw [if_neg (by omega), if_neg (by omega)] | rw [if_neg (by omega)]))
              | (rw [up_id (f := τ) (k := 25) rfl]
                 exact hQ _ _ _ (by unfold fMrule; first | rw [if_pos (by omega)] | rw [if_neg (by omega), if_pos (by omega)] | rw [if_neg (by omega), if_neg (by omega), if_pos (by omega)] | rw [if_neg (by omega), if_neg (by omega), if_neg (by omega)] | rw [if_neg (by omega), if_neg (by omega)] | rw [if_neg (by omega)]) (by unfold tMrule; first | rw [if_pos (by omega)] | rw [if_neg (by omega), if_pos (by omega)] | rw [if_neg (by omega), if_neg (by omega), if_pos (by omega)] | rw [if_neg (by omega), if_neg (by omega), if_neg (by omega)] | rw [if_neg (by omega), if_neg (by omega)] | rw [if_neg (by omega)]))
            · refine R_iload_n dX1_rule_79 rfl ?_
              refine R_goto (tgt := 87) dX1_rule_80 (by decide) ?_
              refine R_putI 26 fX1_rule_30 rfl rfl rfl (by decide +kernel) dX1_rule_87 ?_
              refine R_iload_n dX1_rule_90 rfl ?_
              refine R_iret rfl dX1_rule_91 ?_
              first
              | (exfalso; omega)
              | (rw [up_id (f := up τ 25 0 v) rfl]
                 exact hQ _ _ _ (by unfold fMrule; first | rw [if_pos (by omega)] | rw [if_neg (by omega), if_pos (by omega)] | rw [if_neg (by omega), if_neg (by omega), if_pos (by omega)] | rw [if_neg (by omega), if_neg (by omega), if_neg (by omega)] | rw [if_neg (by omega), if_neg (by omega)] | rw [if_neg (by omega)]) (by unfold tMrule; first | rw [if_pos (by omega)] | rw [if_neg (by omega), if_pos (by omega)] | rw [if_neg (by omega), if_neg (by omega), if_pos (by omega)] | rw [if_neg (by omega), if_neg (by omega), if_neg (by omega)] | rw [if_neg (by omega), if_neg (by omega)] | rw [if_neg (by omega)]))
              | (rw [up_id (f := τ) (k := 25) rfl]
                 exact hQ _ _ _ (by unfold fMrule; first | rw [if_pos (by omega)] | rw [if_neg (by omega), if_pos (by omega)] | rw [if_neg (by omega), if_neg (by omega), if_pos (by omega)] | rw [if_neg (by omega), if_neg (by omega), if_neg (by omega)] | rw [if_neg (by omega), if_neg (by omega)] | rw [if_neg (by omega)]) (by unfold tMrule; first | rw [if_pos (by omega)] | rw [if_neg (by omega), if_pos (by omega)] | rw [if_neg (by omega), if_neg (by omega), if_pos (by omega)] | rw [if_neg (by omega), if_neg (by omega), if_neg (by omega)] | rw [if_neg (by omega), if_neg (by omega)] | rw [if_neg (by omega)]))
      · show R _ _ _ _ 35 _ [_] _ _ _
        refine R_if_ne (tgt := 41) (by decide) dX1_rule_35 (by decide) (fun h => absurd h (by decide)) (fun _ => ?_)
        refine R_bipush dX1_rule_38 (by decide) ?_
        refine R_iret rfl dX1_rule_40 ?_
        exact hQ _ _ _ (by unfold fMrule; first | rw [if_pos (by omega)] | rw [if_neg (by omega), if_pos (by omega)] | rw [if_neg (by omega), if_neg (by omega), if_pos (by omega)] | rw [if_neg (by omega), if_neg (by omega), if_neg (by omega)] | rw [if_neg (by omega), if_neg (by omega)] | rw [if_neg (by omega)]) (by unfold tMrule; first | rw [if_pos (by omega)] | rw [if_neg (by omega), if_pos (by omega)] | rw [if_neg (by omega), if_neg (by omega), if_pos (by omega)] | rw [if_neg (by omega), if_neg (by omega), if_neg (by omega)] | rw [if_neg (by omega), if_neg (by omega)] | rw [if_neg (by omega)])
    · refine R_iload_n dX1_rule_16 rfl ?_
      refine R_iconst dX1_rule_17 ?_
      refine R_iconst dX1_rule_18 ?_
      refine R_callS3 (k2 := kX1_in) dX1_rule_19 rfl gX1_rule_X1_in kkX1_in (Nat.le_of_ble_eq_true rfl) (c_X1_in (by omega) (fun b19 => ?_) (fun b19 => ?_))
      · show R _ _ _ _ 22 _ [_] _ _ _
        refine R_if_ne (tgt := 41) (by decide) dX1_rule_22 (by decide) (fun _ => ?_) (fun h => absurd h (by decide))
        refine R_iload_n dX1_rule_41 rfl ?_
        refine R_if_ne (tgt := 52) (by omega) dX1_rule_42 (by decide) (fun c42 => ?_) (fun c42 => ?_)
        · refine R_aload_n dX1_rule_52 rfl ?_
          refine R_getI 26 fX1_rule_30 rfl rfl dX1_rule_53 ?_
          refine R_istore_n dX1_rule_56 rfl rfl ?_
          refine R_aload_n dX1_rule_57 rfl ?_
          refine R_iload_n dX1_rule_58 rfl ?_
          refine R_if_ne (tgt := 66) (by omega) dX1_rule_59 (by decide) (fun c59 => ?_) (fun c59 => ?_)
          · refine R_aload_n dX1_rule_66 rfl ?_
            refine R_getI 25 fX1_rule_27 rfl rfl dX1_rule_67 ?_
            refine R_putI 25 fX1_rule_27 rfl rfl rfl (by decide +kernel) dX1_rule_70 ?_
            refine R_aload_n dX1_rule_73 rfl ?_
            refine R_iload_n dX1_rule_74 rfl ?_
            refine R_iconst dX1_rule_75 ?_
            refine R_icmp_ne (tgt := 83) (by omega) dX1_rule_76 (by decide) (fun c76 => ?_) (fun c76 => ?_)
            · refine R_aload_n dX1_rule_83 rfl ?_
              refine R_getI 26 fX1_rule_30 rfl rfl dX1_rule_84 ?_
              refine R_putI 26 fX1_rule_30 rfl rfl rfl (by decide +kernel) dX1_rule_87 ?_
              refine R_iload_n dX1_rule_90 rfl ?_
              refine R_iret rfl dX1_rule_91 ?_
              first
              | (exfalso; omega)
              | (rw [up_id (f := up τ 25 0 v) rfl]
                 exact hQ _ _ _ (by unfold fMrule; first | rw [if_pos (by omega)] | rw [if_neg (by omega), if_pos (by omega)] | rw [if_neg (by omega), if_neg (by omega), if_pos (by omega)] | rw [if_neg (by omega), if_neg (by omega), if_neg (by omega)] | rw [if_neg (by omega), if_neg (by omega)] | rw [if_neg (by omega)]) (by unfold tMrule; first | rw [if_pos (by omega)] | rw [if_neg (by omega), if_pos (by omega)] | rw [if_neg (by omega), if_neg (by omega), if_pos (by omega)] | rw [if_neg (by omega), if_neg (by omega), if_neg (by omega)] | rw [if_neg (by omega), if_neg (by omega)] | rw [if_neg (by omega)]))
              | (rw [up_id (f := τ) (k := 25) rfl]
                 exact hQ _ _ _ (by unfold fMrule; first | rw [if_pos (by omega)] | rw [if_neg (by omega), if_pos (by omega)] | rw [if_neg (by omega), if_neg (by omega), if_pos (by omega)] | rw [if_neg (by omega), if_neg (by omega), if_neg (by omega)] | rw [if_neg (by omega), if_neg (by omega)] | rw [if_neg (by omega)]) (by unfold tMrule; first | rw [if_pos (by omega)] | rw [if_neg (by omega), if_pos (by omega)] | rw [if_neg (by omega), if_neg (by omega), if_pos (by omega)] | rw [if_neg (by omega), if_neg (by omega), if_neg (by omega)] | rw [if_neg (by omega), if_neg (by omega)] | rw [if_neg (by omega)]))
            · refine R_iload_n dX1_rule_79 rfl ?_
              refine R_goto (tgt := 87) dX1_rule_80 (by decide) ?_
              refine R_putI 26 fX1_rule_30 rfl rfl rfl (by decide +kernel) dX1_rule_87 ?_
              refine R_iload_n dX1_rule_90 rfl ?_
              refine R_iret rfl dX1_rule_91 ?_
              first
              | (exfalso; omega)
              | (rw [up_id (f := up τ 25 0 v) rfl]
                 exact hQ _ _ _ (by unfold fMrule; first | rw [if_pos (by omega)] | rw [if_neg (by omega), if_pos (by omega)] | rw [if_neg (by omega), if_neg (by omega), if_pos (by omega)] | rw [if_neg (by omega), if_neg (by omega), if_neg (by omega)] | rw [if_neg (by omega), if_neg (by omega)] | rw [if_neg (by omega)]) (by unfold tMrule; first | rw [if_pos (by omega)] | rw [if_neg (by omega), if_pos (by omega)] | rw [if_neg (by omega), if_neg (by omega), if_pos (by omega)] | rw [if_neg (by omega), if_neg (by omega), if_neg (by omega)] | rw [if_neg (by omega), if_neg (by omega)] | rw [if_neg (by omega)]))
              | (rw [up_id (f := τ) (k := 25) rfl]
                 exact hQ _ _ _ (by unfold fMrule; first | rw [if_pos (by omega)] | rw [if_neg (by omega), if_pos (by omega)] | rw [if_neg (by omega), if_neg (by omega), if_pos (by omega)] | rw [if_neg (by omega), if_neg (by omega), if_neg (by omega)] | rw [if_neg (by omega), if_neg (by omega)] | rw [if_neg (by omega)]) (by unfold tMrule; first | rw [if_pos (by omega)] | rw [if_neg (by omega), if_pos (by omega)] | rw [if_neg (by omega), if_neg (by omega), if_pos (by omega)] | rw [if_neg (by omega), if_neg (by omega), if_neg (by omega)] | rw [if_neg (by omega), if_neg (by omega)] | rw [if_neg (by omega)]))
          · refine R_iload_n dX1_rule_62 rfl ?_
            refine R_goto (tgt := 70) dX1_rule_63 (by decide) ?_
            refine R_putI 25 fX1_rule_27 rfl rfl rfl (by decide +kernel) dX1_rule_70 ?_
            refine R_aload_n dX1_rule_73 rfl ?_
            refine R_iload_n dX1_rule_74 rfl ?_
            refine R_iconst dX1_rule_75 ?_
            refine R_icmp_ne (tgt := 83) (by omega) dX1_rule_76 (by decide) (fun c76 => ?_) (fun c76 => ?_)
            · refine R_aload_n dX1_rule_83 rfl ?_
              refine R_getI 26 fX1_rule_30 rfl rfl dX1_rule_84 ?_
              refine R_putI 26 fX1_rule_30 rfl rfl rfl (by decide +kernel) dX1_rule_87 ?_
              refine R_iload_n dX1_rule_90 rfl ?_
              refine R_iret rfl dX1_rule_91 ?_
              first
              | (exfalso; omega)
              | (rw [up_id (f := up τ 25 0 v) rfl]
                 exact hQ _ _ _ (by unfold fMrule; first | rw [if_pos (by omega)] | rw [if_neg (by omega), if_pos (by omega)] | rw [if_neg (by omega), if_neg (by omega), if_pos (by omega)] | rw [if_neg (by omega), if_neg (by omega), if_neg (by omega)] | rw [if_neg (by omega), if_neg (by omega)] | rw [if_neg (by omega)]) (by unfold tMrule; first | rw [if_pos (by omega)] | rw [if_neg (by omega), if_pos (by omega)] | rw [if_neg (by omega), if_neg (by omega), if_pos (by omega)] | rw [if_neg (by omega), if_neg (by omega), if_neg (by omega)] | rw [if_neg (by omega), if_neg (by omega)] | rw [if_neg (by omega)]))
              | (rw [up_id (f := τ) (k := 25) rfl]
                 exact hQ _ _ _ (by unfold fMrule; first | rw [if_pos (by omega)] | rw [if_neg (by omega), if_pos (by omega)] | rw [if_neg (by omega), if_neg (by omega), if_pos (by omega)] | rw [if_neg (by omega), if_neg (by omega), if_neg (by omega)] | rw [if_neg (by omega), if_neg (by omega)] | rw [if_neg (by omega)]) (by unfold tMrule; first | rw [if_pos (by omega)] | rw [if_neg (by omega), if_pos (by omega)] | rw [if_neg (by omega), if_neg (by omega), if_pos (by omega)] | rw [if_neg (by omega), if_neg (by omega), if_neg (by omega)] | rw [if_neg (by omega), if_neg (by omega)] | rw [if_neg (by omega)]))
            · refine R_iload_n dX1_rule_79 rfl ?_
              refine R_goto (tgt := 87) dX1_rule_80 (by decide) ?_
              refine R_putI 26 fX1_rule_30 rfl rfl rfl (by decide +kernel) dX1_rule_87 ?_
              refine R_iload_n dX1_rule_90 rfl ?_
              refine R_iret rfl dX1_rule_91 ?_
              first
              | (exfalso; omega)
              | (rw [up_id (f := up τ 25 0 v) rfl]
                 exact hQ _ _ _ (by unfold fMrule; first | rw [if_pos (by omega)] | rw [if_neg (by omega), if_pos (by omega)] | rw [if_neg (by omega), if_neg (by omega), if_pos (by omega)] | rw [if_neg (by omega), if_neg (by omega), if_neg (by omega)] | rw [if_neg (by omega), if_neg (by omega)] | rw [if_neg (by omega)]) (by unfold tMrule; first | rw [if_pos (by omega)] | rw [if_neg (by omega), if_pos (by omega)] | rw [if_neg (by omega), if_neg (by omega), if_pos (by omega)] | rw [if_neg (by omega), if_neg (by omega), if_neg (by omega)] | rw [if_neg (by omega), if_neg (by omega)] | rw [if_neg (by omega)]))
              | (rw [up_id (f := τ) (k := 25) rfl]
                 exact hQ _ _ _ (by unfold fMrule; first | rw [if_pos (by omega)] | rw [if_neg (by omega), if_pos (by omega)] | rw [if_neg (by omega), if_neg (by omega), if_pos (by omega)] | rw [if_neg (by omega), if_neg (by omega), if_neg (by omega)] | rw [if_neg (by omega), if_neg (by omega)] | rw [if_neg (by omega)]) (by unfold tMrule; first | rw [if_pos (by omega)] | rw [if_neg (by omega), if_pos (by omega)] | rw [if_neg (by omega), if_neg (by omega), if_pos (by omega)] | rw [if_neg (by omega), if_neg (by omega), if_neg (by omega)] | rw [if_neg (by omega), if_neg (by omega)] | rw [if_neg (by omega)]))
        · refine R_aload_n dX1_rule_45 rfl ?_
          refine R_getI 25 fX1_rule_27 rfl rfl dX1_rule_46 ?_
          refine R_goto (tgt := 56) dX1_rule_49 (by decide) ?_
          refine R_istore_n dX1_rule_56 rfl rfl ?_
          refine R_aload_n dX1_rule_57 rfl ?_
          refine R_iload_n dX1_rule_58 rfl ?_
          refine R_if_ne (tgt := 66) (by omega) dX1_rule_59 (by decide) (fun c59 => ?_) (fun c59 => ?_)
          · refine R_aload_n dX1_rule_66 rfl ?_
            refine R_getI 25 fX1_rule_27 rfl rfl dX1_rule_67 ?_
            refine R_putI 25 fX1_rule_27 rfl rfl rfl (by decide +kernel) dX1_rule_70 ?_
            refine R_aload_n dX1_rule_73 rfl ?_
            refine R_iload_n dX1_rule_74 rfl ?_
            refine R_iconst dX1_rule_75 ?_
            refine R_icmp_ne (tgt := 83) (by omega) dX1_rule_76 (by decide) (fun c76 => ?_) (fun c76 => ?_)
            · refine R_aload_n dX1_rule_83 rfl ?_
              refine R_getI 26 fX1_rule_30 rfl rfl dX1_rule_84 ?_
              refine R_putI 26 fX1_rule_30 rfl rfl rfl (by decide +kernel) dX1_rule_87 ?_
              refine R_iload_n dX1_rule_90 rfl ?_
              refine R_iret rfl dX1_rule_91 ?_
              first
              | (exfalso; omega)
              | (rw [up_id (f := up τ 25 0 v) rfl]
                 exact hQ _ _ _ (by unfold fMrule; first | rw [if_pos (by omega)] | rw [if_neg (by omega), if_pos (by omega)] | rw [if_neg (by omega), if_neg (by omega), if_pos (by omega)] | rw [if_neg (by omega), if_neg (by omega), if_neg (by omega)] | rw [if_neg (by omega), if_neg (by omega)] | rw [if_neg (by omega)]) (by unfold tMrule; first | rw [if_pos (by omega)] | rw [if_neg (by omega), if_pos (by omega)] | rw [if_neg (by omega), if_neg (by omega), if_pos (by omega)] | rw [if_neg (by omega), if_neg (by omega), if_neg (by omega)] | rw [if_neg (by omega), if_neg (by omega)] | rw [if_neg (by omega)]))
              | (rw [up_id (f := τ) (k := 25) rfl]
                 exact hQ _ _ _ (by unfold fMrule; first | rw [if_pos (by omega)] | rw [if_neg (by omega), if_pos (by omega)] | rw [if_neg (by omega), if_neg (by omega), if_pos (by omega)] | rw [if_neg (by omega), if_neg (by omega), if_neg (by omega)] | rw [if_neg (by omega), if_neg (by omega)] | rw [if_neg (by omega)]) (by unfold tMrule; first | rw [if_pos (by omega)] | rw [if_neg (by omega), if_pos (by omega)] | rw [if_neg (by omega), if_neg (by omega), if_pos (by omega)] | rw [if_neg (by omega), if_neg (by omega), if_neg (by omega)] | rw [if_neg (by omega), if_neg (by omega)] | rw [if_neg (by omega)]))
            · refine R_iload_n dX1_rule_79 rfl ?_
              refine R_goto (tgt := 87) dX1_rule_80 (by decide) ?_
              refine R_putI 26 fX1_rule_30 rfl rfl rfl (by decide +kernel) dX1_rule_87 ?_
              refine R_iload_n dX1_rule_90 rfl ?_
              refine R_iret rfl dX1_rule_91 ?_
              first
              | (exfalso; omega)
              | (rw [up_id (f := up τ 25 0 v) rfl]
                 exact hQ _ _ _ (by unfold fMrule; first | rw [if_pos (by omega)] | rw [if_neg (by omega), if_pos (by omega)] | rw [if_neg (by omega), if_neg (by omega), if_pos (by omega)] | rw [if_neg (by omega), if_neg (by omega), if_neg (by omega)] | rw [if_neg (by omega), if_neg (by omega)] | rw [if_neg (by omega)]) (by unfold tMrule; first | rw [if_pos (by omega)] | rw [if_neg (by omega), if_pos (by omega)] | rw [if_neg (by omega), if_neg (by omega), if_pos (by omega)] | rw [if_neg (by omega), if_neg (by omega), if_neg (by omega)] | rw [if_neg (by omega), if_neg (by omega)] | rw [if_neg (by omega)]))
              | (rw [up_id (f := τ) (k := 25) rfl]
                 exact hQ _ _ _ (by unfold fMrule; first | rw [if_pos (by omega)] | rw [if_neg (by omega), if_pos (by omega)] | rw [if_neg (by omega), if_neg (by omega), if_pos (by omega)] | rw [if_neg (by omega), if_neg (by omega), if_neg (by omega)] | rw [if_neg (by omega), if_neg (by omega)] | rw [if_neg (by omega)]) (by unfold tMrule; first | rw [if_pos (by omega)] | rw [if_neg (by omega), if_pos (by omega)] | rw [if_neg (by omega), if_neg (by omega), if_pos (by omega)] | rw [if_neg (by omega), if_neg (by omega), if_neg (by omega)] | rw [if_neg (by omega), if_neg (by omega)] | rw [if_neg (by omega)]))
          · refine R_iload_n dX1_rule_62 rfl ?_
            refine R_goto (tgt := 70) dX1_rule_63 (by decide) ?_
            refine R_putI 25 fX1_rule_27 rfl rfl rfl (by decide +kernel) dX1_rule_70 ?_
            refine R_aload_n dX1_rule_73 rfl ?_
            refine R_iload_n dX1_rule_74 rfl ?_
            refine R_iconst dX1_rule_75 ?_
            refine R_icmp_ne (tgt := 83) (by omega) dX1_rule_76 (by decide) (fun c76 => ?_) (fun c76 => ?_)
            · refine R_aload_n dX1_rule_83 rfl ?_
              refine R_getI 26 fX1_rule_30 rfl rfl dX1_rule_84 ?_
              refine R_putI 26 fX1_rule_30 rfl rfl rfl (by decide +kernel) dX1_rule_87 ?_
              refine R_iload_n dX1_rule_90 rfl ?_
              refine R_iret rfl dX1_rule_91 ?_
              first
              | (exfalso; omega)
              | (rw [up_id (f := up τ 25 0 v) rfl]
                 exact hQ _ _ _ (by unfold fMrule; first | rw [if_pos (by omega)] | rw [if_neg (by omega), if_pos (by omega)] | rw [if_neg (by omega), if_neg (by omega), if_pos (by omega)] | rw [if_neg (by omega), if_neg (by omega), if_neg (by omega)] | rw [if_neg (by omega), if_neg (by omega)] | rw [if_neg (by omega)]) (by unfold tMrule; first | rw [if_pos (by omega)] | rw [if_neg (by omega), if_pos (by omega)] | rw [if_neg (by omega), if_neg (by omega), if_pos (by omega)] | rw [if_neg (by omega), if_neg (by omega), if_neg (by omega)] | rw [if_neg (by omega), if_neg (by omega)] | rw [if_neg (by omega)]))
              | (rw [up_id (f := τ) (k := 25) rfl]
                 exact hQ _ _ _ (by unfold fMrule; first | rw [if_pos (by omega)] | rw [if_neg (by omega), if_pos (by omega)] | rw [if_neg (by omega), if_neg (by omega), if_pos (by omega)] | rw [if_neg (by omega), if_neg (by omega), if_neg (by omega)] | rw [if_neg (by omega), if_neg (by omega)] | rw [if_neg (by omega)]) (by unfold tMrule; first | rw [if_pos (by omega)] | rw [if_neg (by omega), if_pos (by omega)] | rw [if_neg (by omega), if_neg (by omega), if_pos (by omega)] | rw [if_neg (by omega), if_neg (by omega), if_neg (by omega)] | rw [if_neg (by omega), if_neg (by omega)] | rw [if_neg (by omega)]))
            · refine R_iload_n dX1_rule_79 rfl ?_
              refine R_goto (tgt := 87) dX1_rule_80 (by decide) ?_
              refine R_putI 26 fX1_rule_30 rfl rfl rfl (by decide +kernel) dX1_rule_87 ?_
              refine R_iload_n dX1_rule_90 rfl ?_
              refine R_iret rfl dX1_rule_91 ?_
              first
              | (exfalso; omega)
              | (rw [up_id (f := up τ 25 0 v) rfl]
                 exact hQ _ _ _ (by unfold fMrule; first | rw [if_pos (by omega)] | rw [if_neg (by omega), if_pos (by omega)] | rw [if_neg (by omega), if_neg (by omega), if_pos (by omega)] | rw [if_neg (by omega), if_neg (by omega), if_neg (by omega)] | rw [if_neg (by omega), if_neg (by omega)] | rw [if_neg (by omega)]) (by unfold tMrule; first | rw [if_pos (by omega)] | rw [if_neg (by omega), if_pos (by omega)] | rw [if_neg (by omega), if_neg (by omega), if_pos (by omega)] | rw [if_neg (by omega), if_neg (by omega), if_neg (by omega)] | rw [if_neg (by omega), if_neg (by omega)] | rw [if_neg (by omega)]))
              | (rw [up_id (f := τ) (k := 25) rfl]
                 exact hQ _ _ _ (by unfold fMrule; first | rw [if_pos (by omega)] | rw [if_neg (by omega), if_pos (by omega)] | rw [if_neg (by omega), if_neg (by omega), if_pos (by omega)] | rw [if_neg (by omega), if_neg (by omega), if_neg (by omega)] | rw [if_neg (by omega), if_neg (by omega)] | rw [if_neg (by omega)]) (by unfold tMrule; first | rw [if_pos (by omega)] | rw [if_neg (by omega), if_pos (by omega)] | rw [if_neg (by omega), if_neg (by omega), if_pos (by omega)] | rw [if_neg (by omega), if_neg (by omega), if_neg (by omega)] | rw [if_neg (by omega), if_neg (by omega)] | rw [if_neg (by omega)]))
      · show R _ _ _ _ 22 _ [_] _ _ _
        refine R_if_ne (tgt := 41) (by decide) dX1_rule_22 (by decide) (fun h => absurd h (by decide)) (fun _ => ?_)
        refine R_goto (tgt := 38) dX1_rule_25 (by decide) ?_
        refine R_bipush dX1_rule_38 (by decide) ?_
        refine R_iret rfl dX1_rule_40 ?_
        exact hQ _ _ _ (by unfold fMrule; first | rw [if_pos (by omega)] | rw [if_neg (by omega), if_pos (by omega)] | rw [if_neg (by omega), if_neg (by omega), if_pos (by omega)] | rw [if_neg (by omega), if_neg (by omega), if_neg (by omega)] | rw [if_neg (by omega), if_neg (by omega)] | rw [if_neg (by omega)]) (by unfold tMrule; first | rw [if_pos (by omega)] | rw [if_neg (by omega), if_pos (by omega)] | rw [if_neg (by omega), if_neg (by omega), if_pos (by omega)] | rw [if_neg (by omega), if_neg (by omega), if_neg (by omega)] | rw [if_neg (by omega), if_neg (by omega)] | rw [if_neg (by omega)])
  · show R _ _ _ _ 6 _ [_] _ _ _
    refine R_if_ne (tgt := 12) (by decide) dX1_rule_6 (by decide) (fun h => absurd h (by decide)) (fun _ => ?_)
    refine R_bipush dX1_rule_9 (by decide) ?_
    refine R_iret rfl dX1_rule_11 ?_
    exact hQ _ _ _ (by unfold fMrule; first | rw [if_pos (by omega)] | rw [if_neg (by omega), if_pos (by omega)] | rw [if_neg (by omega), if_neg (by omega), if_pos (by omega)] | rw [if_neg (by omega), if_neg (by omega), if_neg (by omega)] | rw [if_neg (by omega), if_neg (by omega)] | rw [if_neg (by omega)]) (by unfold tMrule; first | rw [if_pos (by omega)] | rw [if_neg (by omega), if_pos (by omega)] | rw [if_neg (by omega), if_neg (by omega), if_pos (by omega)] | rw [if_neg (by omega), if_neg (by omega), if_neg (by omega)] | rw [if_neg (by omega), if_neg (by omega)] | rw [if_neg (by omega)])

def fMweight (τ : Sf) (r v : Int) : Int := if r < 0 ∨ 2 < r then -101 else if v < 0 ∨ 10 < v then -102 else τ 4 r
def tMweight (τ : Sf) (r v : Int) : Sf := if r < 0 ∨ 2 < r then τ else if v < 0 ∨ 10 < v then τ else up τ 4 r v
set_option maxHeartbeats 4000000 in
set_option maxRecDepth 100000 in
theorem c_X1_weight {E : Ev} {d : Nat} {τ ζ : Sf} {Q : Option Value → Sf → Sf → Prop} {r v : Int} (hI : InvM τ) (hrg : (-2147483648 ≤ r ∧ r < 2147483648) ∧ (-2147483648 ≤ v ∧ v < 2147483648)) (hQ : ∀ (z : Int) (τ' ζ' : Sf), z = fMweight τ r v → τ' = tMweight τ r v → Q (some (.int (zI z))) τ' ζ') : C E GM kX1_weight (d + 2) [.ref (eAd E 0), .int (zI r), .int (zI v)] τ ζ Q := by
  refine C_of (by decide) rfl rfl ?_
  show R E GM kX1_weight (d + 2) 0 [some (.ref (eAd E 0)), some (.int (zI r)), some (.int (zI v)), none] [] τ ζ Q
  obtain ⟨hn, hm, hmk, hys, hpu, hcu, hpl, hwe, hpr, hmi, hwo, hco, hch, hhp⟩ := id hI
  refine R_iload_n dX1_weight_0 rfl ?_
  refine R_callS1 (k2 := kX1_isRound) dX1_weight_1 rfl gX1_weight_X1_isRound kkX1_isRound (Nat.le_of_ble_eq_true rfl) (c_X1_isRound (by omega) (fun b1 => ?_) (fun b1 => ?_))
  · show R _ _ _ _ 4 _ [_] _ _ _
    refine R_if_ne (tgt := 10) (by decide) dX1_weight_4 (by decide) (fun _ => ?_) (fun h => absurd h (by decide))
    refine R_iload_n dX1_weight_10 rfl ?_
    refine R_iconst dX1_weight_11 ?_
    refine R_bipush dX1_weight_12 (by decide) ?_
    refine R_callS3 (k2 := kX1_in) dX1_weight_14 rfl gX1_weight_X1_in kkX1_in (Nat.le_of_ble_eq_true rfl) (c_X1_in (by omega) (fun b14 => ?_) (fun b14 => ?_))
    · show R _ _ _ _ 17 _ [_] _ _ _
      refine R_if_ne (tgt := 23) (by decide) dX1_weight_17 (by decide) (fun _ => ?_) (fun h => absurd h (by decide))
      refine R_aload_n dX1_weight_23 rfl ?_
      refine R_getR fX1_weight_33 dX1_weight_24 ?_
      refine R_iload_n dX1_weight_27 rfl ?_
      refine R_iald (q := 4) rfl rfl (by omega) rfl dX1_weight_28 ?_
      refine R_istore_n dX1_weight_29 rfl rfl ?_
      refine R_aload_n dX1_weight_30 rfl ?_
      refine R_getR fX1_weight_33 dX1_weight_31 ?_
      refine R_iload_n dX1_weight_34 rfl ?_
      refine R_iload_n dX1_weight_35 rfl ?_
      refine R_iast (q := 4) GMok rfl rfl (by omega) rfl dX1_weight_36 ?_
      refine R_iload_n dX1_weight_37 rfl ?_
      refine R_iret rfl dX1_weight_38 ?_
      exact hQ _ _ _ (by unfold fMweight; first | rw [if_pos (by omega)] | rw [if_neg (by omega), if_pos (by omega)] | rw [if_neg (by omega), if_neg (by omega), if_pos (by omega)] | rw [if_neg (by omega), if_neg (by omega), if_neg (by omega)] | rw [if_neg (by omega), if_neg (by omega)] | rw [if_neg (by omega)]) (by unfold tMweight; first | rw [if_pos (by omega)] | rw [if_neg (by omega), if_pos (by omega)] | rw [if_neg (by omega), if_neg (by omega), if_pos (by omega)] | rw [if_neg (by omega), if_neg (by omega), if_neg (by omega)] | rw [if_neg (by omega), if_neg (by omega)] | rw [if_neg (by omega)])
    · show R _ _ _ _ 17 _ [_] _ _ _
      refine R_if_ne (tgt := 23) (by decide) dX1_weight_17 (by decide) (fun h => absurd h (by decide)) (fun _ => ?_)
      refine R_bipush dX1_weight_20 (by decide) ?_
      refine R_iret rfl dX1_weight_22 ?_
      exact hQ _ _ _ (by unfold fMweight; first | rw [if_pos (by omega)] | rw [if_neg (by omega), if_pos (by omega)] | rw [if_neg (by omega), if_neg (by omega), if_pos (by omega)] | rw [if_neg (by omega), if_neg (by omega), if_neg (by omega)] | rw [if_neg (by omega), if_neg (by omega)] | rw [if_neg (by omega)]) (by unfold tMweight; first | rw [if_pos (by omega)] | rw [if_neg (by omega), if_pos (by omega)] | rw [if_neg (by omega), if_neg (by omega), if_pos (by omega)] | rw [if_neg (by omega), if_neg (by omega), if_neg (by omega)] | rw [if_neg (by omega), if_neg (by omega)] | rw [if_neg (by omega)])
  · show R _ _ _ _ 4 _ [_] _ _ _
    refine R_if_ne (tgt := 10) (by decide) dX1_weight_4 (by decide) (fun h => absurd h (by decide)) (fun _ => ?_)
    refine R_bipush dX1_weight_7 (by decide) ?_
    refine R_iret rfl dX1_weight_9 ?_
    exact hQ _ _ _ (by unfold fMweight; first | rw [if_pos (by omega)] | rw [if_neg (by omega), if_pos (by omega)] | rw [if_neg (by omega), if_neg (by omega), if_pos (by omega)] | rw [if_neg (by omega), if_neg (by omega), if_neg (by omega)] | rw [if_neg (by omega), if_neg (by omega)] | rw [if_neg (by omega)]) (by unfold tMweight; first | rw [if_pos (by omega)] | rw [if_neg (by omega), if_pos (by omega)] | rw [if_neg (by omega), if_neg (by omega), if_pos (by omega)] | rw [if_neg (by omega), if_neg (by omega), if_neg (by omega)] | rw [if_neg (by omega), if_neg (by omega)] | rw [if_neg (by omega)])

def fMprize (τ : Sf) (i v : Int) : Int := if i < 0 ∨ 5 < i then -101 else if v < 0 ∨ 1000000 < v then -102 else τ 5 i
def tMprize (τ : Sf) (i v : Int) : Sf := if i < 0 ∨ 5 < i then τ else if v < 0 ∨ 1000000 < v then τ else up τ 5 i v
set_option maxHeartbeats 4000000 in
set_option maxRecDepth 100000 in
theorem c_X1_prize {E : Ev} {d : Nat} {τ ζ : Sf} {Q : Option Value → Sf → Sf → Prop} {i v : Int} (hI : InvM τ) (hrg : (-2147483648 ≤ i ∧ i < 2147483648) ∧ (-2147483648 ≤ v ∧ v < 2147483648)) (hQ : ∀ (z : Int) (τ' ζ' : Sf), z = fMprize τ i v → τ' = tMprize τ i v → Q (some (.int (zI z))) τ' ζ') : C E GM kX1_prize (d + 1) [.ref (eAd E 0), .int (zI i), .int (zI v)] τ ζ Q := by
  refine C_of (by decide) rfl rfl ?_
  show R E GM kX1_prize (d + 1) 0 [some (.ref (eAd E 0)), some (.int (zI i)), some (.int (zI v)), none] [] τ ζ Q
  obtain ⟨hn, hm, hmk, hys, hpu, hcu, hpl, hwe, hpr, hmi, hwo, hco, hch, hhp⟩ := id hI
  refine R_iload_n dX1_prize_0 rfl ?_
  refine R_iconst dX1_prize_1 ?_
  refine R_iconst dX1_prize_2 ?_
  refine R_callS3 (k2 := kX1_in) dX1_prize_3 rfl gX1_prize_X1_in kkX1_in (Nat.le_of_ble_eq_true rfl) (c_X1_in (by omega) (fun b3 => ?_) (fun b3 => ?_))
  · show R _ _ _ _ 6 _ [_] _ _ _
    refine R_if_ne (tgt := 12) (by decide) dX1_prize_6 (by decide) (fun _ => ?_) (fun h => absurd h (by decide))
    refine R_iload_n dX1_prize_12 rfl ?_
    refine R_iconst dX1_prize_13 ?_
    refine R_ldc 1000000 dX1_prize_14 cnX1_prize_155 rfl ?_
    refine R_callS3 (k2 := kX1_in) dX1_prize_16 rfl gX1_prize_X1_in kkX1_in (Nat.le_of_ble_eq_true rfl) (c_X1_in (by omega) (fun b16 => ?_) (fun b16 => ?_))
    · show R _ _ _ _ 19 _ [_] _ _ _
      refine R_if_ne (tgt := 25) (by decide) dX1_prize_19 (by decide) (fun _ => ?_) (fun h => absurd h (by decide))
      refine R_aload_n dX1_prize_25 rfl ?_
      refine R_getR fX1_prize_36 dX1_prize_26 ?_
      refine R_iload_n dX1_prize_29 rfl ?_
      refine R_iald (q := 5) rfl rfl (by omega) rfl dX1_prize_30 ?_
      refine R_istore_n dX1_prize_31 rfl rfl ?_
      refine R_aload_n dX1_prize_32 rfl ?_
      refine R_getR fX1_prize_36 dX1_prize_33 ?_
      refine R_iload_n dX1_prize_36 rfl ?_
      refine R_iload_n dX1_prize_37 rfl ?_
      refine R_iast (q := 5) GMok rfl rfl (by omega) rfl dX1_prize_38 ?_
      refine R_iload_n dX1_prize_39 rfl ?_
      refine R_iret rfl dX1_prize_40 ?_
      exact hQ _ _ _ (by unfold fMprize; first | rw [if_pos (by omega)] | rw [if_neg (by omega), if_pos (by omega)] | rw [if_neg (by omega), if_neg (by omega), if_pos (by omega)] | rw [if_neg (by omega), if_neg (by omega), if_neg (by omega)] | rw [if_neg (by omega), if_neg (by omega)] | rw [if_neg (by omega)]) (by unfold tMprize; first | rw [if_pos (by omega)] | rw [if_neg (by omega), if_pos (by omega)] | rw [if_neg (by omega), if_neg (by omega), if_pos (by omega)] | rw [if_neg (by omega), if_neg (by omega), if_neg (by omega)] | rw [if_neg (by omega), if_neg (by omega)] | rw [if_neg (by omega)])
    · show R _ _ _ _ 19 _ [_] _ _ _
      refine R_if_ne (tgt := 25) (by decide) dX1_prize_19 (by decide) (fun h => absurd h (by decide)) (fun _ => ?_)
      refine R_bipush dX1_prize_22 (by decide) ?_
      refine R_iret rfl dX1_prize_24 ?_
      exact hQ _ _ _ (by unfold fMprize; first | rw [if_pos (by omega)] | rw [if_neg (by omega), if_pos (by omega)] | rw [if_neg (by omega), if_neg (by omega), if_pos (by omega)] | rw [if_neg (by omega), if_neg (by omega), if_neg (by omega)] | rw [if_neg (by omega), if_neg (by omega)] | rw [if_neg (by omega)]) (by unfold tMprize; first | rw [if_pos (by omega)] | rw [if_neg (by omega), if_pos (by omega)] | rw [if_neg (by omega), if_neg (by omega), if_pos (by omega)] | rw [if_neg (by omega), if_neg (by omega), if_neg (by omega)] | rw [if_neg (by omega), if_neg (by omega)] | rw [if_neg (by omega)])
  · show R _ _ _ _ 6 _ [_] _ _ _
    refine R_if_ne (tgt := 12) (by decide) dX1_prize_6 (by decide) (fun h => absurd h (by decide)) (fun _ => ?_)
    refine R_bipush dX1_prize_9 (by decide) ?_
    refine R_iret rfl dX1_prize_11 ?_
    exact hQ _ _ _ (by unfold fMprize; first | rw [if_pos (by omega)] | rw [if_neg (by omega), if_pos (by omega)] | rw [if_neg (by omega), if_neg (by omega), if_pos (by omega)] | rw [if_neg (by omega), if_neg (by omega), if_neg (by omega)] | rw [if_neg (by omega), if_neg (by omega)] | rw [if_neg (by omega)]) (by unfold tMprize; first | rw [if_pos (by omega)] | rw [if_neg (by omega), if_pos (by omega)] | rw [if_neg (by omega), if_neg (by omega), if_pos (by omega)] | rw [if_neg (by omega), if_neg (by omega), if_neg (by omega)] | rw [if_neg (by omega), if_neg (by omega)] | rw [if_neg (by omega)])

def fMwork (τ : Sf) (w v : Int) : Int := if w < 0 ∨ 11 < w then -101 else if v < 1 ∨ 60 < v then -102 else τ 6 w
def tMwork (τ : Sf) (w v : Int) : Sf := if w < 0 ∨ 11 < w then τ else if v < 1 ∨ 60 < v then τ else up τ 6 w v
set_option maxHeartbeats 4000000 in
set_option maxRecDepth 100000 in
theorem c_X1_work {E : Ev} {d : Nat} {τ ζ : Sf} {Q : Option Value → Sf → Sf → Prop} {w v : Int} (hI : InvM τ) (hrg : (-2147483648 ≤ w ∧ w < 2147483648) ∧ (-2147483648 ≤ v ∧ v < 2147483648)) (hQ : ∀ (z : Int) (τ' ζ' : Sf), z = fMwork τ w v → τ' = tMwork τ w v → Q (some (.int (zI z))) τ' ζ') : C E GM kX1_work (d + 1) [.ref (eAd E 0), .int (zI w), .int (zI v)] τ ζ Q := by
  refine C_of (by decide) rfl rfl ?_
  show R E GM kX1_work (d + 1) 0 [some (.ref (eAd E 0)), some (.int (zI w)), some (.int (zI v)), none] [] τ ζ Q
  obtain ⟨hn, hm, hmk, hys, hpu, hcu, hpl, hwe, hpr, hmi, hwo, hco, hch, hhp⟩ := id hI
  refine R_iload_n dX1_work_0 rfl ?_
  refine R_iconst dX1_work_1 ?_
  refine R_bipush dX1_work_2 (by decide) ?_
  refine R_callS3 (k2 := kX1_in) dX1_work_4 rfl gX1_work_X1_in kkX1_in (Nat.le_of_ble_eq_true rfl) (c_X1_in (by omega) (fun b4 => ?_) (fun b4 => ?_))
  · show R _ _ _ _ 7 _ [_] _ _ _
    refine R_if_ne (tgt := 13) (by decide) dX1_work_7 (by decide) (fun _ => ?_) (fun h => absurd h (by decide))
    refine R_iload_n dX1_work_13 rfl ?_
    refine R_iconst dX1_work_14 ?_
    refine R_bipush dX1_work_15 (by decide) ?_
    refine R_callS3 (k2 := kX1_in) dX1_work_17 rfl gX1_work_X1_in kkX1_in (Nat.le_of_ble_eq_true rfl) (c_X1_in (by omega) (fun b17 => ?_) (fun b17 => ?_))
    · show R _ _ _ _ 20 _ [_] _ _ _
      refine R_if_ne (tgt := 26) (by decide) dX1_work_20 (by decide) (fun _ => ?_) (fun h => absurd h (by decide))
      refine R_aload_n dX1_work_26 rfl ?_
      refine R_getR fX1_work_39 dX1_work_27 ?_
      refine R_iload_n dX1_work_30 rfl ?_
      refine R_iald (q := 6) rfl rfl (by omega) rfl dX1_work_31 ?_
      refine R_istore_n dX1_work_32 rfl rfl ?_
      refine R_aload_n dX1_work_33 rfl ?_
      refine R_getR fX1_work_39 dX1_work_34 ?_
      refine R_iload_n dX1_work_37 rfl ?_
      refine R_iload_n dX1_work_38 rfl ?_
      refine R_iast (q := 6) GMok rfl rfl (by omega) rfl dX1_work_39 ?_
      refine R_iload_n dX1_work_40 rfl ?_
      refine R_iret rfl dX1_work_41 ?_
      exact hQ _ _ _ (by unfold fMwork; first | rw [if_pos (by omega)] | rw [if_neg (by omega), if_pos (by omega)] | rw [if_neg (by omega), if_neg (by omega), if_pos (by omega)] | rw [if_neg (by omega), if_neg (by omega), if_neg (by omega)] | rw [if_neg (by omega), if_neg (by omega)] | rw [if_neg (by omega)]) (by unfold tMwork; first | rw [if_pos (by omega)] | rw [if_neg (by omega), if_pos (by omega)] | rw [if_neg (by omega), if_neg (by omega), if_pos (by omega)] | rw [if_neg (by omega), if_neg (by omega), if_neg (by omega)] | rw [if_neg (by omega), if_neg (by omega)] | rw [if_neg (by omega)])
    · show R _ _ _ _ 20 _ [_] _ _ _
      refine R_if_ne (tgt := 26) (by decide) dX1_work_20 (by decide) (fun h => absurd h (by decide)) (fun _ => ?_)
      refine R_bipush dX1_work_23 (by decide) ?_
      refine R_iret rfl dX1_work_25 ?_
      exact hQ _ _ _ (by unfold fMwork; first | rw [if_pos (by omega)] | rw [if_neg (by omega), if_pos (by omega)] | rw [if_neg (by omega), if_neg (by omega), if_pos (by omega)] | rw [if_neg (by omega), if_neg (by omega), if_neg (by omega)] | rw [if_neg (by omega), if_neg (by omega)] | rw [if_neg (by omega)]) (by unfold tMwork; first | rw [if_pos (by omega)] | rw [if_neg (by omega), if_pos (by omega)] | rw [if_neg (by omega), if_neg (by omega), if_pos (by omega)] | rw [if_neg (by omega), if_neg (by omega), if_neg (by omega)] | rw [if_neg (by omega), if_neg (by omega)] | rw [if_neg (by omega)])
  · show R _ _ _ _ 7 _ [_] _ _ _
    refine R_if_ne (tgt := 13) (by decide) dX1_work_7 (by decide) (fun h => absurd h (by decide)) (fun _ => ?_)
    refine R_bipush dX1_work_10 (by decide) ?_
    refine R_iret rfl dX1_work_12 ?_
    exact hQ _ _ _ (by unfold fMwork; first | rw [if_pos (by omega)] | rw [if_neg (by omega), if_pos (by omega)] | rw [if_neg (by omega), if_neg (by omega), if_pos (by omega)] | rw [if_neg (by omega), if_neg (by omega), if_neg (by omega)] | rw [if_neg (by omega), if_neg (by omega)] | rw [if_neg (by omega)]) (by unfold tMwork; first | rw [if_pos (by omega)] | rw [if_neg (by omega), if_pos (by omega)] | rw [if_neg (by omega), if_neg (by omega), if_pos (by omega)] | rw [if_neg (by omega), if_neg (by omega), if_neg (by omega)] | rw [if_neg (by omega), if_neg (by omega)] | rw [if_neg (by omega)])

def fMprogramme (τ : Sf) (p v : Int) : Int := if p < 0 ∨ τ 20 0 ≤ p then -101 else if v < 1 ∨ 4095 < v then -102 else if τ 7 p = 3 then -104 else τ 7 p + 1
def tMprogramme (τ : Sf) (p v : Int) : Sf := if p < 0 ∨ τ 20 0 ≤ p then τ else if v < 1 ∨ 4095 < v then τ else if τ 7 p = 3 then τ else up (up τ 8 (3 * p + τ 7 p) v) 7 p (τ 7 p + 1)
set_option maxHeartbeats 4000000 in
set_option maxRecDepth 100000 in
theorem c_X1_programme {E : Ev} {d : Nat} {τ ζ : Sf} {Q : Option Value → Sf → Sf → Prop} {p v : Int} (hI : InvM τ) (hrg : (-2147483648 ≤ p ∧ p < 2147483648) ∧ (-2147483648 ≤ v ∧ v < 2147483648)) (hQ : ∀ (z : Int) (τ' ζ' : Sf), z = fMprogramme τ p v → τ' = tMprogramme τ p v → Q (some (.int (zI z))) τ' ζ') : C E GM kX1_programme (d + 2) [.ref (eAd E 0), .int (zI p), .int (zI v)] τ ζ Q := by
  refine C_of (by decide) rfl rfl ?_
  show R E GM kX1_programme (d + 2) 0 [some (.ref (eAd E 0)), some (.int (zI p)), some (.int (zI v))] [] τ ζ Q
  obtain ⟨hn, hm, hmk, hys, hpu, hcu, hpl, hwe, hpr, hmi, hwo, hco, hch, hhp⟩ := id hI
  refine R_aload_n dX1_programme_0 rfl ?_
  refine R_iload_n dX1_programme_1 rfl ?_
  refine R_callV1 (k2 := kX1_isPlayer) dX1_programme_2 rfl gX1_programme_X1_isPlayer kkX1_isPlayer rfl rfl (Nat.le_of_ble_eq_true rfl) (c_X1_isPlayer hI (by omega) (fun b2 => ?_) (fun b2 => ?_))
  · show R _ _ _ _ 5 _ [_] _ _ _
    refine R_if_ne (tgt := 11) (by decide) dX1_programme_5 (by decide) (fun _ => ?_) (fun h => absurd h (by decide))
    refine R_iload_n dX1_programme_11 rfl ?_
    refine R_iconst dX1_programme_12 ?_
    refine R_sipush dX1_programme_13 (by decide) ?_
    refine R_callS3 (k2 := kX1_in) dX1_programme_16 rfl gX1_programme_X1_in kkX1_in (Nat.le_of_ble_eq_true rfl) (c_X1_in (by omega) (fun b16 => ?_) (fun b16 => ?_))
    · show R _ _ _ _ 19 _ [_] _ _ _
      refine R_if_ne (tgt := 25) (by decide) dX1_programme_19 (by decide) (fun _ => ?_) (fun h => absurd h (by decide))
      have hcp := hco p
      refine R_aload_n dX1_programme_25 rfl ?_
      refine R_getR fX1_programme_42 dX1_programme_26 ?_
      refine R_iload_n dX1_programme_29 rfl ?_
      refine R_iald (q := 7) rfl rfl (by omega) rfl dX1_programme_30 ?_
      refine R_iconst dX1_programme_31 ?_
      refine R_icmp_ne (tgt := 38) (by omega) dX1_programme_32 (by decide) (fun c32 => ?_) (fun c32 => ?_)
      · refine R_aload_n dX1_programme_38 rfl ?_
        refine R_getR fX1_programme_45 dX1_programme_39 ?_
        refine R_iconst dX1_programme_42 ?_
        refine R_iload_n dX1_programme_43 rfl ?_
        refine R_imul dX1_programme_44 ?_
        refine R_aload_n dX1_programme_45 rfl ?_
        refine R_getR fX1_programme_42 dX1_programme_46 ?_
        refine R_iload_n dX1_programme_49 rfl ?_
        refine R_iald (q := 7) rfl rfl (by omega) rfl dX1_programme_50 ?_
        refine R_iadd dX1_programme_51 ?_
        refine R_iload_n dX1_programme_52 rfl ?_
        refine R_iast (q := 8) GMok rfl rfl (by omega) rfl dX1_programme_53 ?_
        refine R_aload_n dX1_programme_54 rfl ?_
        refine R_getR fX1_programme_42 dX1_programme_55 ?_
        refine R_iload_n dX1_programme_58 rfl ?_
        refine R_dup2 rfl rfl dX1_programme_59 ?_
        refine R_iald (q := 7) rfl rfl (by omega) rfl dX1_programme_60 ?_
        refine R_iconst dX1_programme_61 ?_
        refine R_iadd dX1_programme_62 ?_
        refine R_iast (q := 7) GMok rfl rfl (by omega) rfl dX1_programme_63 ?_
        refine R_aload_n dX1_programme_64 rfl ?_
        refine R_getR fX1_programme_42 dX1_programme_65 ?_
        refine R_iload_n dX1_programme_68 rfl ?_
        refine R_iald (q := 7) rfl rfl (by omega) rfl dX1_programme_69 ?_
        refine R_iret rfl dX1_programme_70 ?_
        rw [up_at, if_pos rfl, up_ne (by decide)]
        exact hQ _ _ _ (by unfold fMprogramme; first | rw [if_pos (by omega)] | rw [if_neg (by omega), if_pos (by omega)] | rw [if_neg (by omega), if_neg (by omega), if_pos (by omega)] | rw [if_neg (by omega), if_neg (by omega), if_neg (by omega)] | rw [if_neg (by omega), if_neg (by omega)] | rw [if_neg (by omega)]) (by unfold tMprogramme; first | rw [if_pos (by omega)] | rw [if_neg (by omega), if_pos (by omega)] | rw [if_neg (by omega), if_neg (by omega), if_pos (by omega)] | rw [if_neg (by omega), if_neg (by omega), if_neg (by omega)] | rw [if_neg (by omega), if_neg (by omega)] | rw [if_neg (by omega)])
      · refine R_bipush dX1_programme_35 (by decide) ?_
        refine R_iret rfl dX1_programme_37 ?_
        exact hQ _ _ _ (by unfold fMprogramme; first | rw [if_pos (by omega)] | rw [if_neg (by omega), if_pos (by omega)] | rw [if_neg (by omega), if_neg (by omega), if_pos (by omega)] | rw [if_neg (by omega), if_neg (by omega), if_neg (by omega)] | rw [if_neg (by omega), if_neg (by omega)] | rw [if_neg (by omega)]) (by unfold tMprogramme; first | rw [if_pos (by omega)] | rw [if_neg (by omega), if_pos (by omega)] | rw [if_neg (by omega), if_neg (by omega), if_pos (by omega)] | rw [if_neg (by omega), if_neg (by omega), if_neg (by omega)] | rw [if_neg (by omega), if_neg (by omega)] | rw [if_neg (by omega)])
    · show R _ _ _ _ 19 _ [_] _ _ _
      refine R_if_ne (tgt := 25) (by decide) dX1_programme_19 (by decide) (fun h => absurd h (by decide)) (fun _ => ?_)
      refine R_bipush dX1_programme_22 (by decide) ?_
      refine R_iret rfl dX1_programme_24 ?_
      exact hQ _ _ _ (by unfold fMprogramme; first | rw [if_pos (by omega)] | rw [if_neg (by omega), if_pos (by omega)] | rw [if_neg (by omega), if_neg (by omega), if_pos (by omega)] | rw [if_neg (by omega), if_neg (by omega), if_neg (by omega)] | rw [if_neg (by omega), if_neg (by omega)] | rw [if_neg (by omega)]) (by unfold tMprogramme; first | rw [if_pos (by omega)] | rw [if_neg (by omega), if_pos (by omega)] | rw [if_neg (by omega), if_neg (by omega), if_pos (by omega)] | rw [if_neg (by omega), if_neg (by omega), if_neg (by omega)] | rw [if_neg (by omega), if_neg (by omega)] | rw [if_neg (by omega)])
  · show R _ _ _ _ 5 _ [_] _ _ _
    refine R_if_ne (tgt := 11) (by decide) dX1_programme_5 (by decide) (fun h => absurd h (by decide)) (fun _ => ?_)
    refine R_bipush dX1_programme_8 (by decide) ?_
    refine R_iret rfl dX1_programme_10 ?_
    exact hQ _ _ _ (by unfold fMprogramme; first | rw [if_pos (by omega)] | rw [if_neg (by omega), if_pos (by omega)] | rw [if_neg (by omega), if_neg (by omega), if_pos (by omega)] | rw [if_neg (by omega), if_neg (by omega), if_neg (by omega)] | rw [if_neg (by omega), if_neg (by omega)] | rw [if_neg (by omega)]) (by unfold tMprogramme; first | rw [if_pos (by omega)] | rw [if_neg (by omega), if_pos (by omega)] | rw [if_neg (by omega), if_neg (by omega), if_pos (by omega)] | rw [if_neg (by omega), if_neg (by omega), if_neg (by omega)] | rw [if_neg (by omega), if_neg (by omega)] | rw [if_neg (by omega)])

def fMscore (τ : Sf) (r w p : Int) : Int := if r < 0 ∨ 2 < r ∨ p < 0 ∨ τ 20 0 ≤ p then -101 else if w < 0 ∨ 5 < w then -102 else scM τ r w p
set_option maxHeartbeats 4000000 in
set_option maxRecDepth 100000 in
theorem c_X1_score {E : Ev} {d : Nat} {τ ζ : Sf} {Q : Option Value → Sf → Sf → Prop} {r w p : Int} (hI : InvM τ) (hrg : (-2147483648 ≤ r ∧ r < 2147483648) ∧ (-2147483648 ≤ w ∧ w < 2147483648) ∧ (-2147483648 ≤ p ∧ p < 2147483648)) (hQ : ∀ (z : Int) (ζ' : Sf), z = fMscore τ r w p → Q (some (.int (zI z))) τ ζ') : C E GM kX1_score (d + 4) [.ref (eAd E 0), .int (zI r), .int (zI w), .int (zI p)] τ ζ Q := by
  refine C_of (by decide) rfl rfl ?_
  show R E GM kX1_score (d + 4) 0 [some (.ref (eAd E 0)), some (.int (zI r)), some (.int (zI w)), some (.int (zI p))] [] τ ζ Q
  obtain ⟨hn, hm, hmk, hys, hpu, hcu, hpl, hwe, hpr, hmi, hwo, hco, hch, hhp⟩ := id hI
  refine R_iload_n dX1_score_0 rfl ?_
  refine R_callS1 (k2 := kX1_isRound) dX1_score_1 rfl gX1_score_X1_isRound kkX1_isRound (Nat.le_of_ble_eq_true rfl) (c_X1_isRound (by omega) (fun b1 => ?_) (fun b1 => ?_))
  · show R _ _ _ _ 4 _ [_] _ _ _
    refine R_if_eq (tgt := 15) (by decide) dX1_score_4 (by decide) (fun h => absurd h (by decide)) (fun _ => ?_)
    refine R_aload_n dX1_score_7 rfl ?_
    refine R_iload_n dX1_score_8 rfl ?_
    refine R_callV1 (k2 := kX1_isPlayer) dX1_score_9 rfl gX1_score_X1_isPlayer kkX1_isPlayer rfl rfl (Nat.le_of_ble_eq_true rfl) (c_X1_isPlayer hI (by omega) (fun b9 => ?_) (fun b9 => ?_))
    · show R _ _ _ _ 12 _ [_] _ _ _
      refine R_if_ne (tgt := 18) (by decide) dX1_score_12 (by decide) (fun _ => ?_) (fun h => absurd h (by decide))
      refine R_iload_n dX1_score_18 rfl ?_
      refine R_iconst dX1_score_19 ?_
      refine R_iconst dX1_score_20 ?_
      refine R_callS3 (k2 := kX1_in) dX1_score_21 rfl gX1_score_X1_in kkX1_in (Nat.le_of_ble_eq_true rfl) (c_X1_in (by omega) (fun b21 => ?_) (fun b21 => ?_))
      · show R _ _ _ _ 24 _ [_] _ _ _
        refine R_if_eq (tgt := 37) (by decide) dX1_score_24 (by decide) (fun h => absurd h (by decide)) (fun _ => ?_)
        refine R_aload_n dX1_score_27 rfl ?_
        refine R_iload_n dX1_score_28 rfl ?_
        refine R_iload_n dX1_score_29 rfl ?_
        refine R_iload_n dX1_score_30 rfl ?_
        refine R_callV3 (k2 := kX1_scoreOf) dX1_score_31 rfl gX1_score_X1_scoreOf kkX1_scoreOf rfl rfl (Nat.le_of_ble_eq_true rfl) (c_X1_scoreOf hI (by omega) (by omega) (by omega) (fun r31 ζ31 h31 hK31 => ?_))
        subst h31
        show R _ _ _ _ 34 _ [_] _ _ _
        refine R_goto (tgt := 39) dX1_score_34 (by decide) ?_
        refine R_iret rfl dX1_score_39 ?_
        exact hQ _ _ (by unfold fMscore; first | rw [if_pos (by omega)] | rw [if_neg (by omega), if_pos (by omega)] | rw [if_neg (by omega), if_neg (by omega), if_pos (by omega)] | rw [if_neg (by omega), if_neg (by omega), if_neg (by omega)] | rw [if_neg (by omega), if_neg (by omega)] | rw [if_neg (by omega)])
      · show R _ _ _ _ 24 _ [_] _ _ _
        refine R_if_eq (tgt := 37) (by decide) dX1_score_24 (by decide) (fun _ => ?_) (fun h => absurd h (by decide))
        refine R_bipush dX1_score_37 (by decide) ?_
        refine R_iret rfl dX1_score_39 ?_
        exact hQ _ _ (by unfold fMscore; first | rw [if_pos (by omega)] | rw [if_neg (by omega), if_pos (by omega)] | rw [if_neg (by omega), if_neg (by omega), if_pos (by omega)] | rw [if_neg (by omega), if_neg (by omega), if_neg (by omega)] | rw [if_neg (by omega), if_neg (by omega)] | rw [if_neg (by omega)])
    · show R _ _ _ _ 12 _ [_] _ _ _
      refine R_if_ne (tgt := 18) (by decide) dX1_score_12 (by decide) (fun h => absurd h (by decide)) (fun _ => ?_)
      refine R_bipush dX1_score_15 (by decide) ?_
      refine R_iret rfl dX1_score_17 ?_
      exact hQ _ _ (by unfold fMscore; first | rw [if_pos (by omega)] | rw [if_neg (by omega), if_pos (by omega)] | rw [if_neg (by omega), if_neg (by omega), if_pos (by omega)] | rw [if_neg (by omega), if_neg (by omega), if_neg (by omega)] | rw [if_neg (by omega), if_neg (by omega)] | rw [if_neg (by omega)])
  · show R _ _ _ _ 4 _ [_] _ _ _
    refine R_if_eq (tgt := 15) (by decide) dX1_score_4 (by decide) (fun _ => ?_) (fun h => absurd h (by decide))
    refine R_bipush dX1_score_15 (by decide) ?_
    refine R_iret rfl dX1_score_17 ?_
    exact hQ _ _ (by unfold fMscore; first | rw [if_pos (by omega)] | rw [if_neg (by omega), if_pos (by omega)] | rw [if_neg (by omega), if_neg (by omega), if_pos (by omega)] | rw [if_neg (by omega), if_neg (by omega), if_neg (by omega)] | rw [if_neg (by omega), if_neg (by omega)] | rw [if_neg (by omega)])

def fMbeats (τ : Sf) (r p q : Int) : Int := if r < 0 ∨ 2 < r ∨ p < 0 ∨ τ 20 0 ≤ p ∨ q < 0 ∨ τ 20 0 ≤ q then -101 else dl (VV τ r p) (VV τ r q) (τ 21 0)
set_option maxHeartbeats 4000000 in
set_option maxRecDepth 100000 in
theorem c_X1_beats {E : Ev} {d : Nat} {τ ζ : Sf} {Q : Option Value → Sf → Sf → Prop} {r p q : Int} (hI : InvM τ) (hrg : (-2147483648 ≤ r ∧ r < 2147483648) ∧ (-2147483648 ≤ p ∧ p < 2147483648) ∧ (-2147483648 ≤ q ∧ q < 2147483648)) (hQ : ∀ (z : Int) (ζ' : Sf), z = fMbeats τ r p q → Q (some (.int (zI z))) τ ζ') : C E GM kX1_beats (d + 2) [.ref (eAd E 0), .int (zI r), .int (zI p), .int (zI q)] τ ζ Q := by
  refine C_of (by decide) rfl rfl ?_
  show R E GM kX1_beats (d + 2) 0 [some (.ref (eAd E 0)), some (.int (zI r)), some (.int (zI p)), some (.int (zI q))] [] τ ζ Q
  obtain ⟨hn, hm, hmk, hys, hpu, hcu, hpl, hwe, hpr, hmi, hwo, hco, hch, hhp⟩ := id hI
  refine R_iload_n dX1_beats_0 rfl ?_
  refine R_callS1 (k2 := kX1_isRound) dX1_beats_1 rfl gX1_beats_X1_isRound kkX1_isRound (Nat.le_of_ble_eq_true rfl) (c_X1_isRound (by omega) (fun b1 => ?_) (fun b1 => ?_))
  · show R _ _ _ _ 4 _ [_] _ _ _
    refine R_if_eq (tgt := 23) (by decide) dX1_beats_4 (by decide) (fun h => absurd h (by decide)) (fun _ => ?_)
    refine R_aload_n dX1_beats_7 rfl ?_
    refine R_iload_n dX1_beats_8 rfl ?_
    refine R_callV1 (k2 := kX1_isPlayer) dX1_beats_9 rfl gX1_beats_X1_isPlayer kkX1_isPlayer rfl rfl (Nat.le_of_ble_eq_true rfl) (c_X1_isPlayer hI (by omega) (fun b9 => ?_) (fun b9 => ?_))
    · show R _ _ _ _ 12 _ [_] _ _ _
      refine R_if_eq (tgt := 23) (by decide) dX1_beats_12 (by decide) (fun h => absurd h (by decide)) (fun _ => ?_)
      refine R_aload_n dX1_beats_15 rfl ?_
      refine R_iload_n dX1_beats_16 rfl ?_
      refine R_callV1 (k2 := kX1_isPlayer) dX1_beats_17 rfl gX1_beats_X1_isPlayer kkX1_isPlayer rfl rfl (Nat.le_of_ble_eq_true rfl) (c_X1_isPlayer hI (by omega) (fun b17 => ?_) (fun b17 => ?_))
      · show R _ _ _ _ 20 _ [_] _ _ _
        refine R_if_ne (tgt := 26) (by decide) dX1_beats_20 (by decide) (fun _ => ?_) (fun h => absurd h (by decide))
        refine R_aload_n dX1_beats_26 rfl ?_
        refine R_iload_n dX1_beats_27 rfl ?_
        refine R_iload_n dX1_beats_28 rfl ?_
        refine R_iload_n dX1_beats_29 rfl ?_
        refine R_callV3 (k2 := kX1_beatsOf) dX1_beats_30 rfl gX1_beats_X1_beatsOf kkX1_beatsOf rfl rfl (Nat.le_of_ble_eq_true rfl) (c_X1_beatsOf hI (by omega) (by omega) (by omega) (fun r30 h30 => ?_))
        subst h30
        show R _ _ _ _ 33 _ [_] _ _ _
        refine R_iret rfl dX1_beats_33 ?_
        exact hQ _ _ (by unfold fMbeats; first | rw [if_pos (by omega)] | rw [if_neg (by omega), if_pos (by omega)] | rw [if_neg (by omega), if_neg (by omega), if_pos (by omega)] | rw [if_neg (by omega), if_neg (by omega), if_neg (by omega)] | rw [if_neg (by omega), if_neg (by omega)] | rw [if_neg (by omega)])
      · show R _ _ _ _ 20 _ [_] _ _ _
        refine R_if_ne (tgt := 26) (by decide) dX1_beats_20 (by decide) (fun h => absurd h (by decide)) (fun _ => ?_)
        refine R_bipush dX1_beats_23 (by decide) ?_
        refine R_iret rfl dX1_beats_25 ?_
        exact hQ _ _ (by unfold fMbeats; first | rw [if_pos (by omega)] | rw [if_neg (by omega), if_pos (by omega)] | rw [if_neg (by omega), if_neg (by omega), if_pos (by omega)] | rw [if_neg (by omega), if_neg (by omega), if_neg (by omega)] | rw [if_neg (by omega), if_neg (by omega)] | rw [if_neg (by omega)])
    · show R _ _ _ _ 12 _ [_] _ _ _
      refine R_if_eq (tgt := 23) (by decide) dX1_beats_12 (by decide) (fun _ => ?_) (fun h => absurd h (by decide))
      refine R_bipush dX1_beats_23 (by decide) ?_
      refine R_iret rfl dX1_beats_25 ?_
      exact hQ _ _ (by unfold fMbeats; first | rw [if_pos (by omega)] | rw [if_neg (by omega), if_pos (by omega)] | rw [if_neg (by omega), if_neg (by omega), if_pos (by omega)] | rw [if_neg (by omega), if_neg (by omega), if_neg (by omega)] | rw [if_neg (by omega), if_neg (by omega)] | rw [if_neg (by omega)])
  · show R _ _ _ _ 4 _ [_] _ _ _
    refine R_if_eq (tgt := 23) (by decide) dX1_beats_4 (by decide) (fun _ => ?_) (fun h => absurd h (by decide))
    refine R_bipush dX1_beats_23 (by decide) ?_
    refine R_iret rfl dX1_beats_25 ?_
    exact hQ _ _ (by unfold fMbeats; first | rw [if_pos (by omega)] | rw [if_neg (by omega), if_pos (by omega)] | rw [if_neg (by omega), if_neg (by omega), if_pos (by omega)] | rw [if_neg (by omega), if_neg (by omega), if_neg (by omega)] | rw [if_neg (by omega), if_neg (by omega)] | rw [if_neg (by omega)])

def fMplace (τ : Sf) (r w p : Int) : Int := if r < 0 ∨ 2 < r ∨ p < 0 ∨ τ 20 0 ≤ p then -101 else if w < 0 ∨ 5 < w then -102 else plc (scM τ r w) (τ 20 0) p
set_option maxHeartbeats 4000000 in
set_option maxRecDepth 100000 in
theorem c_X1_place {E : Ev} {d : Nat} {τ ζ : Sf} {Q : Option Value → Sf → Sf → Prop} {r w p : Int} (hI : InvM τ) (hrg : (-2147483648 ≤ r ∧ r < 2147483648) ∧ (-2147483648 ≤ w ∧ w < 2147483648) ∧ (-2147483648 ≤ p ∧ p < 2147483648)) (hQ : ∀ (z : Int) (ζ' : Sf), z = fMplace τ r w p → Q (some (.int (zI z))) τ ζ') : C E GM kX1_place (d + 5) [.ref (eAd E 0), .int (zI r), .int (zI w), .int (zI p)] τ ζ Q := by
  refine C_of (by decide) rfl rfl ?_
  show R E GM kX1_place (d + 5) 0 [some (.ref (eAd E 0)), some (.int (zI r)), some (.int (zI w)), some (.int (zI p))] [] τ ζ Q
  obtain ⟨hn, hm, hmk, hys, hpu, hcu, hpl, hwe, hpr, hmi, hwo, hco, hch, hhp⟩ := id hI
  refine R_iload_n dX1_place_0 rfl ?_
  refine R_callS1 (k2 := kX1_isRound) dX1_place_1 rfl gX1_place_X1_isRound kkX1_isRound (Nat.le_of_ble_eq_true rfl) (c_X1_isRound (by omega) (fun b1 => ?_) (fun b1 => ?_))
  · show R _ _ _ _ 4 _ [_] _ _ _
    refine R_if_eq (tgt := 15) (by decide) dX1_place_4 (by decide) (fun h => absurd h (by decide)) (fun _ => ?_)
    refine R_aload_n dX1_place_7 rfl ?_
    refine R_iload_n dX1_place_8 rfl ?_
    refine R_callV1 (k2 := kX1_isPlayer) dX1_place_9 rfl gX1_place_X1_isPlayer kkX1_isPlayer rfl rfl (Nat.le_of_ble_eq_true rfl) (c_X1_isPlayer hI (by omega) (fun b9 => ?_) (fun b9 => ?_))
    · show R _ _ _ _ 12 _ [_] _ _ _
      refine R_if_ne (tgt := 18) (by decide) dX1_place_12 (by decide) (fun _ => ?_) (fun h => absurd h (by decide))
      refine R_iload_n dX1_place_18 rfl ?_
      refine R_iconst dX1_place_19 ?_
      refine R_iconst dX1_place_20 ?_
      refine R_callS3 (k2 := kX1_in) dX1_place_21 rfl gX1_place_X1_in kkX1_in (Nat.le_of_ble_eq_true rfl) (c_X1_in (by omega) (fun b21 => ?_) (fun b21 => ?_))
      · show R _ _ _ _ 24 _ [_] _ _ _
        refine R_if_eq (tgt := 37) (by decide) dX1_place_24 (by decide) (fun h => absurd h (by decide)) (fun _ => ?_)
        refine R_aload_n dX1_place_27 rfl ?_
        refine R_iload_n dX1_place_28 rfl ?_
        refine R_iload_n dX1_place_29 rfl ?_
        refine R_iload_n dX1_place_30 rfl ?_
        refine R_callV3 (k2 := kX1_placeOf) dX1_place_31 rfl gX1_place_X1_placeOf kkX1_placeOf rfl rfl (Nat.le_of_ble_eq_true rfl) (c_X1_placeOf hI (by omega) (by omega) (by omega) (fun r31 ζ31 h31 hK31 => ?_))
        subst h31
        show R _ _ _ _ 34 _ [_] _ _ _
        refine R_goto (tgt := 39) dX1_place_34 (by decide) ?_
        refine R_iret rfl dX1_place_39 ?_
        exact hQ _ _ (by unfold fMplace; first | rw [if_pos (by omega)] | rw [if_neg (by omega), if_pos (by omega)] | rw [if_neg (by omega), if_neg (by omega), if_pos (by omega)] | rw [if_neg (by omega), if_neg (by omega), if_neg (by omega)] | rw [if_neg (by omega), if_neg (by omega)] | rw [if_neg (by omega)])
      · show R _ _ _ _ 24 _ [_] _ _ _
        refine R_if_eq (tgt := 37) (by decide) dX1_place_24 (by decide) (fun _ => ?_) (fun h => absurd h (by decide))
        refine R_bipush dX1_place_37 (by decide) ?_
        refine R_iret rfl dX1_place_39 ?_
        exact hQ _ _ (by unfold fMplace; first | rw [if_pos (by omega)] | rw [if_neg (by omega), if_pos (by omega)] | rw [if_neg (by omega), if_neg (by omega), if_pos (by omega)] | rw [if_neg (by omega), if_neg (by omega), if_neg (by omega)] | rw [if_neg (by omega), if_neg (by omega)] | rw [if_neg (by omega)])
    · show R _ _ _ _ 12 _ [_] _ _ _
      refine R_if_ne (tgt := 18) (by decide) dX1_place_12 (by decide) (fun h => absurd h (by decide)) (fun _ => ?_)
      refine R_bipush dX1_place_15 (by decide) ?_
      refine R_iret rfl dX1_place_17 ?_
      exact hQ _ _ (by unfold fMplace; first | rw [if_pos (by omega)] | rw [if_neg (by omega), if_pos (by omega)] | rw [if_neg (by omega), if_neg (by omega), if_pos (by omega)] | rw [if_neg (by omega), if_neg (by omega), if_neg (by omega)] | rw [if_neg (by omega), if_neg (by omega)] | rw [if_neg (by omega)])
  · show R _ _ _ _ 4 _ [_] _ _ _
    refine R_if_eq (tgt := 15) (by decide) dX1_place_4 (by decide) (fun _ => ?_) (fun h => absurd h (by decide))
    refine R_bipush dX1_place_15 (by decide) ?_
    refine R_iret rfl dX1_place_17 ?_
    exact hQ _ _ (by unfold fMplace; first | rw [if_pos (by omega)] | rw [if_neg (by omega), if_pos (by omega)] | rw [if_neg (by omega), if_neg (by omega), if_pos (by omega)] | rw [if_neg (by omega), if_neg (by omega), if_neg (by omega)] | rw [if_neg (by omega), if_neg (by omega)] | rw [if_neg (by omega)])

def fMpassed (τ : Sf) (r w k : Int) : Int := if r < 0 ∨ 2 < r then -101 else if w < 0 ∨ 5 < w ∨ k < 1 ∨ 10 < k then -102 else bsm (psb (scM τ r w) (τ 20 0) k) (τ 20 0)
set_option maxHeartbeats 4000000 in
set_option maxRecDepth 100000 in
theorem c_X1_passed {E : Ev} {d : Nat} {τ ζ : Sf} {Q : Option Value → Sf → Sf → Prop} {r w k : Int} (hI : InvM τ) (hrg : (-2147483648 ≤ r ∧ r < 2147483648) ∧ (-2147483648 ≤ w ∧ w < 2147483648) ∧ (-2147483648 ≤ k ∧ k < 2147483648)) (hQ : ∀ (z : Int) (ζ' : Sf), z = fMpassed τ r w k → Q (some (.int (zI z))) τ ζ') : C E GM kX1_passed (d + 7) [.ref (eAd E 0), .int (zI r), .int (zI w), .int (zI k)] τ ζ Q := by
  refine C_of (by decide) rfl rfl ?_
  show R E GM kX1_passed (d + 7) 0 [some (.ref (eAd E 0)), some (.int (zI r)), some (.int (zI w)), some (.int (zI k))] [] τ ζ Q
  obtain ⟨hn, hm, hmk, hys, hpu, hcu, hpl, hwe, hpr, hmi, hwo, hco, hch, hhp⟩ := id hI
  refine R_iload_n dX1_passed_0 rfl ?_
  refine R_callS1 (k2 := kX1_isRound) dX1_passed_1 rfl gX1_passed_X1_isRound kkX1_isRound (Nat.le_of_ble_eq_true rfl) (c_X1_isRound (by omega) (fun b1 => ?_) (fun b1 => ?_))
  · show R _ _ _ _ 4 _ [_] _ _ _
    refine R_if_ne (tgt := 10) (by decide) dX1_passed_4 (by decide) (fun _ => ?_) (fun h => absurd h (by decide))
    refine R_iload_n dX1_passed_10 rfl ?_
    refine R_iconst dX1_passed_11 ?_
    refine R_iconst dX1_passed_12 ?_
    refine R_callS3 (k2 := kX1_in) dX1_passed_13 rfl gX1_passed_X1_in kkX1_in (Nat.le_of_ble_eq_true rfl) (c_X1_in (by omega) (fun b13 => ?_) (fun b13 => ?_))
    · show R _ _ _ _ 16 _ [_] _ _ _
      refine R_if_eq (tgt := 39) (by decide) dX1_passed_16 (by decide) (fun h => absurd h (by decide)) (fun _ => ?_)
      refine R_iload_n dX1_passed_19 rfl ?_
      refine R_iconst dX1_passed_20 ?_
      refine R_bipush dX1_passed_21 (by decide) ?_
      refine R_callS3 (k2 := kX1_in) dX1_passed_23 rfl gX1_passed_X1_in kkX1_in (Nat.le_of_ble_eq_true rfl) (c_X1_in (by omega) (fun b23 => ?_) (fun b23 => ?_))
      · show R _ _ _ _ 26 _ [_] _ _ _
        refine R_if_eq (tgt := 39) (by decide) dX1_passed_26 (by decide) (fun h => absurd h (by decide)) (fun _ => ?_)
        refine R_aload_n dX1_passed_29 rfl ?_
        refine R_iload_n dX1_passed_30 rfl ?_
        refine R_iload_n dX1_passed_31 rfl ?_
        refine R_iload_n dX1_passed_32 rfl ?_
        refine R_callV3 (k2 := kX1_passedOf) dX1_passed_33 rfl gX1_passed_X1_passedOf kkX1_passedOf rfl rfl (Nat.le_of_ble_eq_true rfl) (c_X1_passedOf hI (by omega) (by omega) (by omega) (fun r33 ζ33 h33 => ?_))
        subst h33
        show R _ _ _ _ 36 _ [_] _ _ _
        refine R_goto (tgt := 41) dX1_passed_36 (by decide) ?_
        refine R_iret rfl dX1_passed_41 ?_
        exact hQ _ _ (by unfold fMpassed; first | rw [if_pos (by omega)] | rw [if_neg (by omega), if_pos (by omega)] | rw [if_neg (by omega), if_neg (by omega), if_pos (by omega)] | rw [if_neg (by omega), if_neg (by omega), if_neg (by omega)] | rw [if_neg (by omega), if_neg (by omega)] | rw [if_neg (by omega)])
      · show R _ _ _ _ 26 _ [_] _ _ _
        refine R_if_eq (tgt := 39) (by decide) dX1_passed_26 (by decide) (fun _ => ?_) (fun h => absurd h (by decide))
        refine R_bipush dX1_passed_39 (by decide) ?_
        refine R_iret rfl dX1_passed_41 ?_
        exact hQ _ _ (by unfold fMpassed; first | rw [if_pos (by omega)] | rw [if_neg (by omega), if_pos (by omega)] | rw [if_neg (by omega), if_neg (by omega), if_pos (by omega)] | rw [if_neg (by omega), if_neg (by omega), if_neg (by omega)] | rw [if_neg (by omega), if_neg (by omega)] | rw [if_neg (by omega)])
    · show R _ _ _ _ 16 _ [_] _ _ _
      refine R_if_eq (tgt := 39) (by decide) dX1_passed_16 (by decide) (fun _ => ?_) (fun h => absurd h (by decide))
      refine R_bipush dX1_passed_39 (by decide) ?_
      refine R_iret rfl dX1_passed_41 ?_
      exact hQ _ _ (by unfold fMpassed; first | rw [if_pos (by omega)] | rw [if_neg (by omega), if_pos (by omega)] | rw [if_neg (by omega), if_neg (by omega), if_pos (by omega)] | rw [if_neg (by omega), if_neg (by omega), if_neg (by omega)] | rw [if_neg (by omega), if_neg (by omega)] | rw [if_neg (by omega)])
  · show R _ _ _ _ 4 _ [_] _ _ _
    refine R_if_ne (tgt := 10) (by decide) dX1_passed_4 (by decide) (fun h => absurd h (by decide)) (fun _ => ?_)
    refine R_bipush dX1_passed_7 (by decide) ?_
    refine R_iret rfl dX1_passed_9 ?_
    exact hQ _ _ (by unfold fMpassed; first | rw [if_pos (by omega)] | rw [if_neg (by omega), if_pos (by omega)] | rw [if_neg (by omega), if_neg (by omega), if_pos (by omega)] | rw [if_neg (by omega), if_neg (by omega), if_neg (by omega)] | rw [if_neg (by omega), if_neg (by omega)] | rw [if_neg (by omega)])

def fMdiffer (τ : Sf) (r w v k : Int) : Int := if r < 0 ∨ 2 < r then -101 else if w < 0 ∨ 5 < w ∨ v < 0 ∨ 5 < v ∨ k < 1 ∨ 10 < k then -102 else pop (xr (bsm (psb (scM τ r w) (τ 20 0) k) (τ 20 0)) (bsm (psb (scM τ r v) (τ 20 0) k) (τ 20 0))) (τ 20 0)
set_option maxHeartbeats 4000000 in
set_option maxRecDepth 100000 in
theorem c_X1_differ {E : Ev} {d : Nat} {τ ζ : Sf} {Q : Option Value → Sf → Sf → Prop} {r w v k : Int} (hI : InvM τ) (hrg : (-2147483648 ≤ r ∧ r < 2147483648) ∧ (-2147483648 ≤ w ∧ w < 2147483648) ∧ (-2147483648 ≤ v ∧ v < 2147483648) ∧ (-2147483648 ≤ k ∧ k < 2147483648)) (hQ : ∀ (z : Int) (ζ' : Sf), z = fMdiffer τ r w v k → Q (some (.int (zI z))) τ ζ') : C E GM kX1_differ (d + 7) [.ref (eAd E 0), .int (zI r), .int (zI w), .int (zI v), .int (zI k)] τ ζ Q := by
  refine C_of (by decide) rfl rfl ?_
  show R E GM kX1_differ (d + 7) 0 [some (.ref (eAd E 0)), some (.int (zI r)), some (.int (zI w)), some (.int (zI v)), some (.int (zI k)), none, none, none] [] τ ζ Q
  obtain ⟨hn, hm, hmk, hys, hpu, hcu, hpl, hwe, hpr, hmi, hwo, hco, hch, hhp⟩ := id hI
  refine R_iload_n dX1_differ_0 rfl ?_
  refine R_callS1 (k2 := kX1_isRound) dX1_differ_1 rfl gX1_differ_X1_isRound kkX1_isRound (Nat.le_of_ble_eq_true rfl) (c_X1_isRound (by omega) (fun b1 => ?_) (fun b1 => ?_))
  · show R _ _ _ _ 4 _ [_] _ _ _
    refine R_if_ne (tgt := 10) (by decide) dX1_differ_4 (by decide) (fun _ => ?_) (fun h => absurd h (by decide))
    refine R_iload_n dX1_differ_10 rfl ?_
    refine R_iconst dX1_differ_11 ?_
    refine R_iconst dX1_differ_12 ?_
    refine R_callS3 (k2 := kX1_in) dX1_differ_13 rfl gX1_differ_X1_in kkX1_in (Nat.le_of_ble_eq_true rfl) (c_X1_in (by omega) (fun b13 => ?_) (fun b13 => ?_))
    · show R _ _ _ _ 16 _ [_] _ _ _
      refine R_if_eq (tgt := 39) (by decide) dX1_differ_16 (by decide) (fun h => absurd h (by decide)) (fun _ => ?_)
      refine R_iload_n dX1_differ_19 rfl ?_
      refine R_iconst dX1_differ_20 ?_
      refine R_iconst dX1_differ_21 ?_
      refine R_callS3 (k2 := kX1_in) dX1_differ_22 rfl gX1_differ_X1_in kkX1_in (Nat.le_of_ble_eq_true rfl) (c_X1_in (by omega) (fun b22 => ?_) (fun b22 => ?_))
      · show R _ _ _ _ 25 _ [_] _ _ _
        refine R_if_eq (tgt := 39) (by decide) dX1_differ_25 (by decide) (fun h => absurd h (by decide)) (fun _ => ?_)
        refine R_iload dX1_differ_28 rfl ?_
        refine R_iconst dX1_differ_30 ?_
        refine R_bipush dX1_differ_31 (by decide) ?_
        refine R_callS3 (k2 := kX1_in) dX1_differ_33 rfl gX1_differ_X1_in kkX1_in (Nat.le_of_ble_eq_true rfl) (c_X1_in (by omega) (fun b33 => ?_) (fun b33 => ?_))
        · show R _ _ _ _ 36 _ [_] _ _ _
          refine R_if_ne (tgt := 42) (by decide) dX1_differ_36 (by decide) (fun _ => ?_) (fun h => absurd h (by decide))
          refine R_aload_n dX1_differ_42 rfl ?_
          refine R_iload_n dX1_differ_43 rfl ?_
          refine R_iload_n dX1_differ_44 rfl ?_
          refine R_iload dX1_differ_45 rfl ?_
          refine R_callV3 (k2 := kX1_passedOf) dX1_differ_47 rfl gX1_differ_X1_passedOf kkX1_passedOf rfl rfl (Nat.le_of_ble_eq_true rfl) (c_X1_passedOf hI (by omega) (by omega) (by omega) (fun r47 ζ47 h47 => ?_))
          subst h47
          show R _ _ _ _ 50 _ [_] _ _ _
          refine R_aload_n dX1_differ_50 rfl ?_
          refine R_iload_n dX1_differ_51 rfl ?_
          refine R_iload_n dX1_differ_52 rfl ?_
          refine R_iload dX1_differ_53 rfl ?_
          refine R_callV3 (k2 := kX1_passedOf) dX1_differ_55 rfl gX1_differ_X1_passedOf kkX1_passedOf rfl rfl (Nat.le_of_ble_eq_true rfl) (c_X1_passedOf hI (by omega) (by omega) (by omega) (fun r55 ζ55 h55 => ?_))
          subst h55
          show R _ _ _ _ 58 _ [_, _] _ _ _
          have hb1 := bsm_bd' (psb_01 (scM τ r w) (τ 20 0) k) (n := τ 20 0) (by omega)
          have hb2 := bsm_bd' (psb_01 (scM τ r v) (τ 20 0) k) (n := τ 20 0) (by omega)
          have hx := xr_bd (n := τ 20 0) (by omega) hb1 hb2
          have h10 := p2_10 (q := τ 20 0) (by omega)
          refine R_ixor _ (zI_xr hb1.1 hb2.1) dX1_differ_58 ?_
          refine R_istore dX1_differ_59 rfl rfl ?_
          have loop : ∀ (N : Nat) (q s : Int) (ζ' : Sf), (τ 20 0 - q).toNat = N → 0 ≤ q → q ≤ τ 20 0 → s + sm (fun q => xr (bsm (psb (scM τ r w) (τ 20 0) k) (τ 20 0)) (bsm (psb (scM τ r v) (τ 20 0) k) (τ 20 0)) / p2 q % 2) q (τ 20 0) = pop (xr (bsm (psb (scM τ r w) (τ 20 0) k) (τ 20 0)) (bsm (psb (scM τ r v) (τ 20 0) k) (τ 20 0))) (τ 20 0) → R E GM kX1_differ (d + 7) 67 [some (.ref (eAd E 0)), some (.int (zI r)), some (.int (zI w)), some (.int (zI v)), some (.int (zI k)), some (.int (zI ((xr (bsm (psb (scM τ r w) (τ 20 0) k) (τ 20 0)) (bsm (psb (scM τ r v) (τ 20 0) k) (τ 20 0)))))), some (.int (zI s)), some (.int (zI q))] [] τ ζ' Q := by
            refine st_ind (fun N ih => ?_)
            intro q s ζ' hN hq hq2 hs
            refine R_iload dX1_differ_67 rfl ?_
            refine R_aload_n dX1_differ_69 rfl ?_
            refine R_getI 20 fX1_differ_7 rfl rfl dX1_differ_70 ?_
            refine R_icmp_ge (tgt := 94) (by omega) dX1_differ_73 (by decide) (fun c73 => ?_) (fun c73 => ?_)
            · refine R_iload dX1_differ_94 rfl ?_
              refine R_iret rfl dX1_differ_96 ?_
              rw [sm_ge (by omega)] at hs
              exact hQ _ _ (by unfold fMdiffer; rw [if_neg (by omega), if_neg (by omega)]; omega)
            · have hdv := Int.ediv_nonneg (a := (xr (bsm (psb (scM τ r w) (τ 20 0) k) (τ 20 0)) (bsm (psb (scM τ r v) (τ 20 0) k) (τ 20 0)))) (b := p2 q) (by omega) (by have := p2_pos q; omega)
              refine R_iload dX1_differ_76 rfl ?_
              refine R_iload dX1_differ_78 rfl ?_
              refine R_iload dX1_differ_80 rfl ?_
              refine R_ishr _ (zI_shr (by omega) (by omega)) dX1_differ_82 ?_
              refine R_iconst dX1_differ_83 ?_
              refine R_iand _ (zI_and1 hdv) dX1_differ_84 ?_
              refine R_iadd dX1_differ_85 ?_
              refine R_istore dX1_differ_86 rfl rfl ?_
              refine R_iinc dX1_differ_88 rfl rfl rfl ?_
              refine R_goto (tgt := 67) dX1_differ_91 (by decide) ?_
              rw [sm_lt (by omega)] at hs
              exact ih _ (by omega) (q + 1) _ _ rfl (by omega) (by omega) (by omega)
          refine R_iconst dX1_differ_61 ?_
          refine R_istore dX1_differ_62 rfl rfl ?_
          refine R_iconst dX1_differ_64 ?_
          refine R_istore dX1_differ_65 rfl rfl ?_
          exact loop _ 0 0 _ rfl (by omega) (by omega) (by unfold pop; omega)
        · show R _ _ _ _ 36 _ [_] _ _ _
          refine R_if_ne (tgt := 42) (by decide) dX1_differ_36 (by decide) (fun h => absurd h (by decide)) (fun _ => ?_)
          refine R_bipush dX1_differ_39 (by decide) ?_
          refine R_iret rfl dX1_differ_41 ?_
          exact hQ _ _ (by unfold fMdiffer; first | rw [if_pos (by omega)] | rw [if_neg (by omega), if_pos (by omega)] | rw [if_neg (by omega), if_neg (by omega), if_pos (by omega)] | rw [if_neg (by omega), if_neg (by omega), if_neg (by omega)] | rw [if_neg (by omega), if_neg (by omega)] | rw [if_neg (by omega)])
      · show R _ _ _ _ 25 _ [_] _ _ _
        refine R_if_eq (tgt := 39) (by decide) dX1_differ_25 (by decide) (fun _ => ?_) (fun h => absurd h (by decide))
        refine R_bipush dX1_differ_39 (by decide) ?_
        refine R_iret rfl dX1_differ_41 ?_
        exact hQ _ _ (by unfold fMdiffer; first | rw [if_pos (by omega)] | rw [if_neg (by omega), if_pos (by omega)] | rw [if_neg (by omega), if_neg (by omega), if_pos (by omega)] | rw [if_neg (by omega), if_neg (by omega), if_neg (by omega)] | rw [if_neg (by omega), if_neg (by omega)] | rw [if_neg (by omega)])
    · show R _ _ _ _ 16 _ [_] _ _ _
      refine R_if_eq (tgt := 39) (by decide) dX1_differ_16 (by decide) (fun _ => ?_) (fun h => absurd h (by decide))
      refine R_bipush dX1_differ_39 (by decide) ?_
      refine R_iret rfl dX1_differ_41 ?_
      exact hQ _ _ (by unfold fMdiffer; first | rw [if_pos (by omega)] | rw [if_neg (by omega), if_pos (by omega)] | rw [if_neg (by omega), if_neg (by omega), if_pos (by omega)] | rw [if_neg (by omega), if_neg (by omega), if_neg (by omega)] | rw [if_neg (by omega), if_neg (by omega)] | rw [if_neg (by omega)])
  · show R _ _ _ _ 4 _ [_] _ _ _
    refine R_if_ne (tgt := 10) (by decide) dX1_differ_4 (by decide) (fun h => absurd h (by decide)) (fun _ => ?_)
    refine R_bipush dX1_differ_7 (by decide) ?_
    refine R_iret rfl dX1_differ_9 ?_
    exact hQ _ _ (by unfold fMdiffer; first | rw [if_pos (by omega)] | rw [if_neg (by omega), if_pos (by omega)] | rw [if_neg (by omega), if_neg (by omega), if_pos (by omega)] | rw [if_neg (by omega), if_neg (by omega), if_neg (by omega)] | rw [if_neg (by omega), if_neg (by omega)] | rw [if_neg (by omega)])

def fMreach (τ : Sf) (r w j p s : Int) : Int := if r < 0 ∨ 2 < r ∨ j < 0 ∨ τ 21 0 ≤ j ∨ p < 0 ∨ τ 20 0 ≤ p then -101 else if w < 0 ∨ 5 < w ∨ s < 0 ∨ 1 < s then -102 else if τ 3 (10 * j + p) = 1 then -103 else plc (scM (md τ r w j p (1 - s)) r w) (τ 20 0) p
set_option maxHeartbeats 4000000 in
set_option maxRecDepth 100000 in
theorem c_X1_reach {E : Ev} {d : Nat} {τ ζ : Sf} {Q : Option Value → Sf → Sf → Prop} {r w j p s : Int} (hI : InvM τ) (hrg : (-2147483648 ≤ r ∧ r < 2147483648) ∧ (-2147483648 ≤ w ∧ w < 2147483648) ∧ (-2147483648 ≤ j ∧ j < 2147483648) ∧ (-2147483648 ≤ p ∧ p < 2147483648) ∧ (-2147483648 ≤ s ∧ s < 2147483648)) (hQ : ∀ (z : Int) (ζ' : Sf), z = fMreach τ r w j p s → Q (some (.int (zI z))) τ ζ') : C E GM kX1_reach (d + 8) [.ref (eAd E 0), .int (zI r), .int (zI w), .int (zI j), .int (zI p), .int (zI s)] τ ζ Q := by
  refine C_of (by decide) rfl rfl ?_
  show R E GM kX1_reach (d + 8) 0 [some (.ref (eAd E 0)), some (.int (zI r)), some (.int (zI w)), some (.int (zI j)), some (.int (zI p)), some (.int (zI s))] [] τ ζ Q
  obtain ⟨hn, hm, hmk, hys, hpu, hcu, hpl, hwe, hpr, hmi, hwo, hco, hch, hhp⟩ := id hI
  have hpp := hpu (10 * j + p)
  refine R_iload_n dX1_reach_0 rfl ?_
  refine R_callS1 (k2 := kX1_isRound) dX1_reach_1 rfl gX1_reach_X1_isRound kkX1_isRound (Nat.le_of_ble_eq_true rfl) (c_X1_isRound (by omega) (fun b1 => ?_) (fun b1 => ?_))
  · show R _ _ _ _ 4 _ [_] _ _ _
    refine R_if_eq (tgt := 24) (by decide) dX1_reach_4 (by decide) (fun h => absurd h (by decide)) (fun _ => ?_)
    refine R_aload_n dX1_reach_7 rfl ?_
    refine R_iload_n dX1_reach_8 rfl ?_
    refine R_callV1 (k2 := kX1_isJuror) dX1_reach_9 rfl gX1_reach_X1_isJuror kkX1_isJuror rfl rfl (Nat.le_of_ble_eq_true rfl) (c_X1_isJuror hI (by omega) (fun b9 => ?_) (fun b9 => ?_))
    · show R _ _ _ _ 12 _ [_] _ _ _
      refine R_if_eq (tgt := 24) (by decide) dX1_reach_12 (by decide) (fun h => absurd h (by decide)) (fun _ => ?_)
      refine R_aload_n dX1_reach_15 rfl ?_
      refine R_iload dX1_reach_16 rfl ?_
      refine R_callV1 (k2 := kX1_isPlayer) dX1_reach_18 rfl gX1_reach_X1_isPlayer kkX1_isPlayer rfl rfl (Nat.le_of_ble_eq_true rfl) (c_X1_isPlayer hI (by omega) (fun b18 => ?_) (fun b18 => ?_))
      · show R _ _ _ _ 21 _ [_] _ _ _
        refine R_if_ne (tgt := 27) (by decide) dX1_reach_21 (by decide) (fun _ => ?_) (fun h => absurd h (by decide))
        refine R_iload_n dX1_reach_27 rfl ?_
        refine R_iconst dX1_reach_28 ?_
        refine R_iconst dX1_reach_29 ?_
        refine R_callS3 (k2 := kX1_in) dX1_reach_30 rfl gX1_reach_X1_in kkX1_in (Nat.le_of_ble_eq_true rfl) (c_X1_in (by omega) (fun b30 => ?_) (fun b30 => ?_))
        · show R _ _ _ _ 33 _ [_] _ _ _
          refine R_if_eq (tgt := 46) (by decide) dX1_reach_33 (by decide) (fun h => absurd h (by decide)) (fun _ => ?_)
          refine R_iload dX1_reach_36 rfl ?_
          refine R_iconst dX1_reach_38 ?_
          refine R_iconst dX1_reach_39 ?_
          refine R_callS3 (k2 := kX1_in) dX1_reach_40 rfl gX1_reach_X1_in kkX1_in (Nat.le_of_ble_eq_true rfl) (c_X1_in (by omega) (fun b40 => ?_) (fun b40 => ?_))
          · show R _ _ _ _ 43 _ [_] _ _ _
            refine R_if_ne (tgt := 49) (by decide) dX1_reach_43 (by decide) (fun _ => ?_) (fun h => absurd h (by decide))
            refine R_aload_n dX1_reach_49 rfl ?_
            refine R_getR fX1_reach_24 dX1_reach_50 ?_
            refine R_bipush dX1_reach_53 (by decide) ?_
            refine R_iload_n dX1_reach_55 rfl ?_
            refine R_imul dX1_reach_56 ?_
            refine R_iload dX1_reach_57 rfl ?_
            refine R_iadd dX1_reach_59 ?_
            refine R_bald (q := 3) rfl rfl rfl (by omega) rfl dX1_reach_60 ?_
            refine R_if_eq (tgt := 67) (by omega) dX1_reach_61 (by decide) (fun c61 => ?_) (fun c61 => ?_)
            · refine R_aload_n dX1_reach_67 rfl ?_
              refine R_iload_n dX1_reach_68 rfl ?_
              refine R_iload_n dX1_reach_69 rfl ?_
              refine R_iload_n dX1_reach_70 rfl ?_
              refine R_iload dX1_reach_71 rfl ?_
              refine R_iconst dX1_reach_73 ?_
              refine R_callV5 (k2 := kX1_seek) dX1_reach_74 rfl gX1_reach_X1_seek kkX1_seek rfl rfl (Nat.le_of_ble_eq_true rfl) (c_X1_seek hI (by omega) (by omega) (by omega) (by omega) (by omega) (fun ζ74 s37 s38 s39 s40 => ?_))
              show R _ _ _ _ 77 _ [] _ _ _
              refine R_iload dX1_reach_77 rfl ?_
              refine R_if_ne (tgt := 89) (by omega) dX1_reach_79 (by decide) (fun c79 => ?_) (fun c79 => ?_)
              · refine R_aload_n dX1_reach_89 rfl ?_
                refine R_getIs 38 fX1_reach_131 rfl rfl dX1_reach_90 ?_
                refine R_iret rfl dX1_reach_93 ?_
                first
                | (have hs0 : s = 0 := by omega
                   subst hs0
                   rw [s37]
                   exact hQ _ _ (by unfold fMreach; rw [if_neg (by omega), if_neg (by omega), if_neg (by omega)] <;> rfl))
                | (have hs1 : s = 1 := by omega
                   subst hs1
                   rw [s38]
                   exact hQ _ _ (by unfold fMreach; rw [if_neg (by omega), if_neg (by omega), if_neg (by omega)] <;> rfl))
              · refine R_aload_n dX1_reach_82 rfl ?_
                refine R_getIs 37 fX1_reach_128 rfl rfl dX1_reach_83 ?_
                refine R_goto (tgt := 93) dX1_reach_86 (by decide) ?_
                refine R_iret rfl dX1_reach_93 ?_
                first
                | (have hs0 : s = 0 := by omega
                   subst hs0
                   rw [s37]
                   exact hQ _ _ (by unfold fMreach; rw [if_neg (by omega), if_neg (by omega), if_neg (by omega)] <;> rfl))
                | (have hs1 : s = 1 := by omega
                   subst hs1
                   rw [s38]
                   exact hQ _ _ (by unfold fMreach; rw [if_neg (by omega), if_neg (by omega), if_neg (by omega)] <;> rfl))
            · refine R_bipush dX1_reach_64 (by decide) ?_
              refine R_iret rfl dX1_reach_66 ?_
              exact hQ _ _ (by unfold fMreach; first | rw [if_pos (by omega)] | rw [if_neg (by omega), if_pos (by omega)] | rw [if_neg (by omega), if_neg (by omega), if_pos (by omega)] | rw [if_neg (by omega), if_neg (by omega), if_neg (by omega)] | rw [if_neg (by omega), if_neg (by omega)] | rw [if_neg (by omega)])
          · show R _ _ _ _ 43 _ [_] _ _ _
            refine R_if_ne (tgt := 49) (by decide) dX1_reach_43 (by decide) (fun h => absurd h (by decide)) (fun _ => ?_)
            refine R_bipush dX1_reach_46 (by decide) ?_
            refine R_iret rfl dX1_reach_48 ?_
            exact hQ _ _ (by unfold fMreach; first | rw [if_pos (by omega)] | rw [if_neg (by omega), if_pos (by omega)] | rw [if_neg (by omega), if_neg (by omega), if_pos (by omega)] | rw [if_neg (by omega), if_neg (by omega), if_neg (by omega)] | rw [if_neg (by omega), if_neg (by omega)] | rw [if_neg (by omega)])
        · show R _ _ _ _ 33 _ [_] _ _ _
          refine R_if_eq (tgt := 46) (by decide) dX1_reach_33 (by decide) (fun _ => ?_) (fun h => absurd h (by decide))
          refine R_bipush dX1_reach_46 (by decide) ?_
          refine R_iret rfl dX1_reach_48 ?_
          exact hQ _ _ (by unfold fMreach; first | rw [if_pos (by omega)] | rw [if_neg (by omega), if_pos (by omega)] | rw [if_neg (by omega), if_neg (by omega), if_pos (by omega)] | rw [if_neg (by omega), if_neg (by omega), if_neg (by omega)] | rw [if_neg (by omega), if_neg (by omega)] | rw [if_neg (by omega)])
      · show R _ _ _ _ 21 _ [_] _ _ _
        refine R_if_ne (tgt := 27) (by decide) dX1_reach_21 (by decide) (fun h => absurd h (by decide)) (fun _ => ?_)
        refine R_bipush dX1_reach_24 (by decide) ?_
        refine R_iret rfl dX1_reach_26 ?_
        exact hQ _ _ (by unfold fMreach; first | rw [if_pos (by omega)] | rw [if_neg (by omega), if_pos (by omega)] | rw [if_neg (by omega), if_neg (by omega), if_pos (by omega)] | rw [if_neg (by omega), if_neg (by omega), if_neg (by omega)] | rw [if_neg (by omega), if_neg (by omega)] | rw [if_neg (by omega)])
    · show R _ _ _ _ 12 _ [_] _ _ _
      refine R_if_eq (tgt := 24) (by decide) dX1_reach_12 (by decide) (fun _ => ?_) (fun h => absurd h (by decide))
      refine R_bipush dX1_reach_24 (by decide) ?_
      refine R_iret rfl dX1_reach_26 ?_
      exact hQ _ _ (by unfold fMreach; first | rw [if_pos (by omega)] | rw [if_neg (by omega), if_pos (by omega)] | rw [if_neg (by omega), if_neg (by omega), if_pos (by omega)] | rw [if_neg (by omega), if_neg (by omega), if_neg (by omega)] | rw [if_neg (by omega), if_neg (by omega)] | rw [if_neg (by omega)])
  · show R _ _ _ _ 4 _ [_] _ _ _
    refine R_if_eq (tgt := 24) (by decide) dX1_reach_4 (by decide) (fun _ => ?_) (fun h => absurd h (by decide))
    refine R_bipush dX1_reach_24 (by decide) ?_
    refine R_iret rfl dX1_reach_26 ?_
    exact hQ _ _ (by unfold fMreach; first | rw [if_pos (by omega)] | rw [if_neg (by omega), if_pos (by omega)] | rw [if_neg (by omega), if_neg (by omega), if_pos (by omega)] | rw [if_neg (by omega), if_neg (by omega), if_neg (by omega)] | rw [if_neg (by omega), if_neg (by omega)] | rw [if_neg (by omega)])

def swM (τ : Sf) (r w j k p : Int) : Int := if τ 3 (10 * j + p) = 1 then 0 else if psb (scM τ r w) (τ 20 0) k p = 1 then (if psb (scM (md τ r w j p 0) r w) (τ 20 0) k p = 1 then 0 else 1) else psb (scM (md τ r w j p 1) r w) (τ 20 0) k p
def fMsway (τ : Sf) (r w j k : Int) : Int := if r < 0 ∨ 2 < r ∨ j < 0 ∨ τ 21 0 ≤ j then -101 else if w < 0 ∨ 5 < w ∨ k < 1 ∨ 10 < k then -102 else sm (swM τ r w j k) 0 (τ 20 0)
set_option maxHeartbeats 4000000 in
set_option maxRecDepth 100000 in
theorem c_X1_sway {E : Ev} {d : Nat} {τ ζ : Sf} {Q : Option Value → Sf → Sf → Prop} {r w j k : Int} (hI : InvM τ) (hrg : (-2147483648 ≤ r ∧ r < 2147483648) ∧ (-2147483648 ≤ w ∧ w < 2147483648) ∧ (-2147483648 ≤ j ∧ j < 2147483648) ∧ (-2147483648 ≤ k ∧ k < 2147483648)) (hQ : ∀ (z : Int) (ζ' : Sf), z = fMsway τ r w j k → Q (some (.int (zI z))) τ ζ') : C E GM kX1_sway (d + 8) [.ref (eAd E 0), .int (zI r), .int (zI w), .int (zI j), .int (zI k)] τ ζ Q := by
  refine C_of (by decide) rfl rfl ?_
  show R E GM kX1_sway (d + 8) 0 [some (.ref (eAd E 0)), some (.int (zI r)), some (.int (zI w)), some (.int (zI j)), some (.int (zI k)), none, none, none] [] τ ζ Q
  obtain ⟨hn, hm, hmk, hys, hpu, hcu, hpl, hwe, hpr, hmi, hwo, hco, hch, hhp⟩ := id hI
  refine R_iload_n dX1_sway_0 rfl ?_
  refine R_callS1 (k2 := kX1_isRound) dX1_sway_1 rfl gX1_sway_X1_isRound kkX1_isRound (Nat.le_of_ble_eq_true rfl) (c_X1_isRound (by omega) (fun b1 => ?_) (fun b1 => ?_))
  · show R _ _ _ _ 4 _ [_] _ _ _
    refine R_if_eq (tgt := 15) (by decide) dX1_sway_4 (by decide) (fun h => absurd h (by decide)) (fun _ => ?_)
    refine R_aload_n dX1_sway_7 rfl ?_
    refine R_iload_n dX1_sway_8 rfl ?_
    refine R_callV1 (k2 := kX1_isJuror) dX1_sway_9 rfl gX1_sway_X1_isJuror kkX1_isJuror rfl rfl (Nat.le_of_ble_eq_true rfl) (c_X1_isJuror hI (by omega) (fun b9 => ?_) (fun b9 => ?_))
    · show R _ _ _ _ 12 _ [_] _ _ _
      refine R_if_ne (tgt := 18) (by decide) dX1_sway_12 (by decide) (fun _ => ?_) (fun h => absurd h (by decide))
      refine R_iload_n dX1_sway_18 rfl ?_
      refine R_iconst dX1_sway_19 ?_
      refine R_iconst dX1_sway_20 ?_
      refine R_callS3 (k2 := kX1_in) dX1_sway_21 rfl gX1_sway_X1_in kkX1_in (Nat.le_of_ble_eq_true rfl) (c_X1_in (by omega) (fun b21 => ?_) (fun b21 => ?_))
      · show R _ _ _ _ 24 _ [_] _ _ _
        refine R_if_eq (tgt := 38) (by decide) dX1_sway_24 (by decide) (fun h => absurd h (by decide)) (fun _ => ?_)
        refine R_iload dX1_sway_27 rfl ?_
        refine R_iconst dX1_sway_29 ?_
        refine R_bipush dX1_sway_30 (by decide) ?_
        refine R_callS3 (k2 := kX1_in) dX1_sway_32 rfl gX1_sway_X1_in kkX1_in (Nat.le_of_ble_eq_true rfl) (c_X1_in (by omega) (fun b32 => ?_) (fun b32 => ?_))
        · show R _ _ _ _ 35 _ [_] _ _ _
          refine R_if_ne (tgt := 41) (by decide) dX1_sway_35 (by decide) (fun _ => ?_) (fun h => absurd h (by decide))
          have loop : ∀ (N : Nat) (p s : Int) (ζ1 : Sf) (o : Option Value), (τ 20 0 - p).toNat = N → 0 ≤ p → p ≤ τ 20 0 → s + sm (swM τ r w j k) p (τ 20 0) = sm (swM τ r w j k) 0 (τ 20 0) → R E GM kX1_sway (d + 8) 47 [some (.ref (eAd E 0)), some (.int (zI r)), some (.int (zI w)), some (.int (zI j)), some (.int (zI k)), some (.int (zI s)), some (.int (zI p)), o] [] τ ζ1 Q := by
            refine st_ind (fun N ih => ?_)
            intro p s ζ1 o hN hx hx2 hs
            have hpp := hpu (10 * j + p)
            have hq0 := psb_le (scM (md τ r w j p 0) r w) (τ 20 0) k p
            have hq1 := psb_le (scM (md τ r w j p 1) r w) (τ 20 0) k p
            refine R_iload dX1_sway_47 rfl ?_
            refine R_aload_n dX1_sway_49 rfl ?_
            refine R_getI 20 fX1_sway_7 rfl rfl dX1_sway_50 ?_
            refine R_icmp_ge (tgt := 137) (by omega) dX1_sway_53 (by decide) (fun c53 => ?_) (fun c53 => ?_)
            · refine R_iload dX1_sway_137 rfl ?_
              refine R_iret rfl dX1_sway_139 ?_
              rw [sm_ge (by omega)] at hs
              exact hQ _ _ (by unfold fMsway; rw [if_neg (by omega), if_neg (by omega)]; omega)
            · refine R_aload_n dX1_sway_56 rfl ?_
              refine R_getR fX1_sway_24 dX1_sway_57 ?_
              refine R_bipush dX1_sway_60 (by decide) ?_
              refine R_iload_n dX1_sway_62 rfl ?_
              refine R_imul dX1_sway_63 ?_
              refine R_iload dX1_sway_64 rfl ?_
              refine R_iadd dX1_sway_66 ?_
              refine R_bald (q := 3) rfl rfl rfl (by omega) rfl dX1_sway_67 ?_
              refine R_if_ne (tgt := 131) (by omega) dX1_sway_68 (by decide) (fun c68 => ?_) (fun c68 => ?_)
              · refine R_iinc dX1_sway_131 rfl rfl rfl ?_
                refine R_goto (tgt := 47) dX1_sway_134 (by decide) ?_
                rw [sm_lt (by omega)] at hs
                refine ih (τ 20 0 - (p + 1)).toNat (by omega) (p + 1) _ _ _ rfl (by omega) (by omega) ?_
                first
                | (have e : swM τ r w j k p = 0 := by
                     unfold swM
                     rw [if_pos (show τ 3 (10 * j + p) = 1 by omega)]
                   omega)
                | (have e : swM τ r w j k p = 1 := by
                     unfold swM
                     rw [if_neg (show ¬ τ 3 (10 * j + p) = 1 by omega), if_pos b78, if_neg (by omega)]
                   omega)
                | (have e : swM τ r w j k p = 0 := by
                     unfold swM
                     rw [if_neg (show ¬ τ 3 (10 * j + p) = 1 by omega), if_pos b78, if_pos (by omega)]
                   omega)
                | (have e : swM τ r w j k p = psb (scM (md τ r w j p 1) r w) (τ 20 0) k p := by
                     unfold swM
                     rw [if_neg (show ¬ τ 3 (10 * j + p) = 1 by omega), if_neg (by omega)]
                   omega)
              · refine R_aload_n dX1_sway_71 rfl ?_
                refine R_iload_n dX1_sway_72 rfl ?_
                refine R_iload_n dX1_sway_73 rfl ?_
                refine R_iload dX1_sway_74 rfl ?_
                refine R_iload dX1_sway_76 rfl ?_
                refine R_callV4 (k2 := kX1_passes) dX1_sway_78 rfl gX1_sway_X1_passes kkX1_passes rfl rfl (Nat.le_of_ble_eq_true rfl) (c_X1_passes hI (by omega) (by omega) (by omega) (by omega) (fun ζ78 b78 hK78 => ?_) (fun ζ78 b78 hK78 => ?_))
                · show R _ _ _ _ 81 _ [_] _ _ _
                  refine R_istore dX1_sway_81 rfl rfl ?_
                  refine R_aload_n dX1_sway_83 rfl ?_
                  refine R_iload_n dX1_sway_84 rfl ?_
                  refine R_iload_n dX1_sway_85 rfl ?_
                  refine R_iload_n dX1_sway_86 rfl ?_
                  refine R_iload dX1_sway_87 rfl ?_
                  refine R_iload dX1_sway_89 rfl ?_
                  refine R_callV5 (k2 := kX1_seek) dX1_sway_91 rfl gX1_sway_X1_seek kkX1_seek rfl rfl (Nat.le_of_ble_eq_true rfl) (c_X1_seek hI (by omega) (by omega) (by omega) (by omega) (by omega) (fun ζ91 s37 s38 s39 s40 => ?_))
                  show R _ _ _ _ 94 _ [] _ _ _
                  refine R_iload dX1_sway_94 rfl ?_
                  refine R_iload dX1_sway_96 rfl ?_
                  refine R_if_eq (tgt := 116) (by decide) dX1_sway_98 (by decide) (fun h => absurd h (by decide)) (fun _ => ?_)
                  refine R_aload_n dX1_sway_101 rfl ?_
                  refine R_getIs 40 fX1_sway_137 rfl rfl dX1_sway_102 ?_
                  refine R_if_eq (tgt := 112) (by omega) dX1_sway_105 (by decide) (fun c105 => ?_) (fun c105 => ?_)
                  · refine R_iconst dX1_sway_112 ?_
                    refine R_goto (tgt := 128) dX1_sway_113 (by decide) ?_
                    refine R_iadd dX1_sway_128 ?_
                    refine R_istore dX1_sway_129 rfl rfl ?_
                    refine R_iinc dX1_sway_131 rfl rfl rfl ?_
                    refine R_goto (tgt := 47) dX1_sway_134 (by decide) ?_
                    rw [sm_lt (by omega)] at hs
                    refine ih (τ 20 0 - (p + 1)).toNat (by omega) (p + 1) _ _ _ rfl (by omega) (by omega) ?_
                    first
                    | (have e : swM τ r w j k p = 0 := by
                         unfold swM
                         rw [if_pos (show τ 3 (10 * j + p) = 1 by omega)]
                       omega)
                    | (have e : swM τ r w j k p = 1 := by
                         unfold swM
                         rw [if_neg (show ¬ τ 3 (10 * j + p) = 1 by omega), if_pos b78, if_neg (by omega)]
                       omega)
                    | (have e : swM τ r w j k p = 0 := by
                         unfold swM
                         rw [if_neg (show ¬ τ 3 (10 * j + p) = 1 by omega), if_pos b78, if_pos (by omega)]
                       omega)
                    | (have e : swM τ r w j k p = psb (scM (md τ r w j p 1) r w) (τ 20 0) k p := by
                         unfold swM
                         rw [if_neg (show ¬ τ 3 (10 * j + p) = 1 by omega), if_neg (by omega)]
                       omega)
                  · refine R_iconst dX1_sway_108 ?_
                    refine R_goto (tgt := 128) dX1_sway_109 (by decide) ?_
                    refine R_iadd dX1_sway_128 ?_
                    refine R_istore dX1_sway_129 rfl rfl ?_
                    refine R_iinc dX1_sway_131 rfl rfl rfl ?_
                    refine R_goto (tgt := 47) dX1_sway_134 (by decide) ?_
                    rw [sm_lt (by omega)] at hs
                    refine ih (τ 20 0 - (p + 1)).toNat (by omega) (p + 1) _ _ _ rfl (by omega) (by omega) ?_
                    first
                    | (have e : swM τ r w j k p = 0 := by
                         unfold swM
                         rw [if_pos (show τ 3 (10 * j + p) = 1 by omega)]
                       omega)
                    | (have e : swM τ r w j k p = 1 := by
                         unfold swM
                         rw [if_neg (show ¬ τ 3 (10 * j + p) = 1 by omega), if_pos b78, if_neg (by omega)]
                       omega)
                    | (have e : swM τ r w j k p = 0 := by
                         unfold swM
                         rw [if_neg (show ¬ τ 3 (10 * j + p) = 1 by omega), if_pos b78, if_pos (by omega)]
                       omega)
                    | (have e : swM τ r w j k p = psb (scM (md τ r w j p 1) r w) (τ 20 0) k p := by
                         unfold swM
                         rw [if_neg (show ¬ τ 3 (10 * j + p) = 1 by omega), if_neg (by omega)]
                       omega)
                · show R _ _ _ _ 81 _ [_] _ _ _
                  refine R_istore dX1_sway_81 rfl rfl ?_
                  refine R_aload_n dX1_sway_83 rfl ?_
                  refine R_iload_n dX1_sway_84 rfl ?_
                  refine R_iload_n dX1_sway_85 rfl ?_
                  refine R_iload_n dX1_sway_86 rfl ?_
                  refine R_iload dX1_sway_87 rfl ?_
                  refine R_iload dX1_sway_89 rfl ?_
                  refine R_callV5 (k2 := kX1_seek) dX1_sway_91 rfl gX1_sway_X1_seek kkX1_seek rfl rfl (Nat.le_of_ble_eq_true rfl) (c_X1_seek hI (by omega) (by omega) (by omega) (by omega) (by omega) (fun ζ91 s37 s38 s39 s40 => ?_))
                  show R _ _ _ _ 94 _ [] _ _ _
                  refine R_iload dX1_sway_94 rfl ?_
                  refine R_iload dX1_sway_96 rfl ?_
                  refine R_if_eq (tgt := 116) (by decide) dX1_sway_98 (by decide) (fun _ => ?_) (fun h => absurd h (by decide))
                  refine R_aload_n dX1_sway_116 rfl ?_
                  refine R_getIs 39 fX1_sway_134 rfl rfl dX1_sway_117 ?_
                  refine R_if_eq (tgt := 127) (by omega) dX1_sway_120 (by decide) (fun c120 => ?_) (fun c120 => ?_)
                  · refine R_iconst dX1_sway_127 ?_
                    refine R_iadd dX1_sway_128 ?_
                    refine R_istore dX1_sway_129 rfl rfl ?_
                    refine R_iinc dX1_sway_131 rfl rfl rfl ?_
                    refine R_goto (tgt := 47) dX1_sway_134 (by decide) ?_
                    rw [sm_lt (by omega)] at hs
                    refine ih (τ 20 0 - (p + 1)).toNat (by omega) (p + 1) _ _ _ rfl (by omega) (by omega) ?_
                    first
                    | (have e : swM τ r w j k p = 0 := by
                         unfold swM
                         rw [if_pos (show τ 3 (10 * j + p) = 1 by omega)]
                       omega)
                    | (have e : swM τ r w j k p = 1 := by
                         unfold swM
                         rw [if_neg (show ¬ τ 3 (10 * j + p) = 1 by omega), if_pos b78, if_neg (by omega)]
                       omega)
                    | (have e : swM τ r w j k p = 0 := by
                         unfold swM
                         rw [if_neg (show ¬ τ 3 (10 * j + p) = 1 by omega), if_pos b78, if_pos (by omega)]
                       omega)
                    | (have e : swM τ r w j k p = psb (scM (md τ r w j p 1) r w) (τ 20 0) k p := by
                         unfold swM
                         rw [if_neg (show ¬ τ 3 (10 * j + p) = 1 by omega), if_neg (by omega)]
                       omega)
                  · refine R_iconst dX1_sway_123 ?_
                    refine R_goto (tgt := 128) dX1_sway_124 (by decide) ?_
                    refine R_iadd dX1_sway_128 ?_
                    refine R_istore dX1_sway_129 rfl rfl ?_
                    refine R_iinc dX1_sway_131 rfl rfl rfl ?_
                    refine R_goto (tgt := 47) dX1_sway_134 (by decide) ?_
                    rw [sm_lt (by omega)] at hs
                    refine ih (τ 20 0 - (p + 1)).toNat (by omega) (p + 1) _ _ _ rfl (by omega) (by omega) ?_
                    first
                    | (have e : swM τ r w j k p = 0 := by
                         unfold swM
                         rw [if_pos (show τ 3 (10 * j + p) = 1 by omega)]
                       omega)
                    | (have e : swM τ r w j k p = 1 := by
                         unfold swM
                         rw [if_neg (show ¬ τ 3 (10 * j + p) = 1 by omega), if_pos b78, if_neg (by omega)]
                       omega)
                    | (have e : swM τ r w j k p = 0 := by
                         unfold swM
                         rw [if_neg (show ¬ τ 3 (10 * j + p) = 1 by omega), if_pos b78, if_pos (by omega)]
                       omega)
                    | (have e : swM τ r w j k p = psb (scM (md τ r w j p 1) r w) (τ 20 0) k p := by
                         unfold swM
                         rw [if_neg (show ¬ τ 3 (10 * j + p) = 1 by omega), if_neg (by omega)]
                       omega)
          refine R_iconst dX1_sway_41 ?_
          refine R_istore dX1_sway_42 rfl rfl ?_
          refine R_iconst dX1_sway_44 ?_
          refine R_istore dX1_sway_45 rfl rfl ?_
          exact loop _ 0 0 _ _ rfl (by omega) (by omega) (by omega)
        · show R _ _ _ _ 35 _ [_] _ _ _
          refine R_if_ne (tgt := 41) (by decide) dX1_sway_35 (by decide) (fun h => absurd h (by decide)) (fun _ => ?_)
          refine R_bipush dX1_sway_38 (by decide) ?_
          refine R_iret rfl dX1_sway_40 ?_
          exact hQ _ _ (by unfold fMsway; first | rw [if_pos (by omega)] | rw [if_neg (by omega), if_pos (by omega)] | rw [if_neg (by omega), if_neg (by omega), if_pos (by omega)] | rw [if_neg (by omega), if_neg (by omega), if_neg (by omega)] | rw [if_neg (by omega), if_neg (by omega)] | rw [if_neg (by omega)])
      · show R _ _ _ _ 24 _ [_] _ _ _
        refine R_if_eq (tgt := 38) (by decide) dX1_sway_24 (by decide) (fun _ => ?_) (fun h => absurd h (by decide))
        refine R_bipush dX1_sway_38 (by decide) ?_
        refine R_iret rfl dX1_sway_40 ?_
        exact hQ _ _ (by unfold fMsway; first | rw [if_pos (by omega)] | rw [if_neg (by omega), if_pos (by omega)] | rw [if_neg (by omega), if_neg (by omega), if_pos (by omega)] | rw [if_neg (by omega), if_neg (by omega), if_neg (by omega)] | rw [if_neg (by omega), if_neg (by omega)] | rw [if_neg (by omega)])
    · show R _ _ _ _ 12 _ [_] _ _ _
      refine R_if_ne (tgt := 18) (by decide) dX1_sway_12 (by decide) (fun h => absurd h (by decide)) (fun _ => ?_)
      refine R_bipush dX1_sway_15 (by decide) ?_
      refine R_iret rfl dX1_sway_17 ?_
      exact hQ _ _ (by unfold fMsway; first | rw [if_pos (by omega)] | rw [if_neg (by omega), if_pos (by omega)] | rw [if_neg (by omega), if_neg (by omega), if_pos (by omega)] | rw [if_neg (by omega), if_neg (by omega), if_neg (by omega)] | rw [if_neg (by omega), if_neg (by omega)] | rw [if_neg (by omega)])
  · show R _ _ _ _ 4 _ [_] _ _ _
    refine R_if_eq (tgt := 15) (by decide) dX1_sway_4 (by decide) (fun _ => ?_) (fun h => absurd h (by decide))
    refine R_bipush dX1_sway_15 (by decide) ?_
    refine R_iret rfl dX1_sway_17 ?_
    exact hQ _ _ (by unfold fMsway; first | rw [if_pos (by omega)] | rw [if_neg (by omega), if_pos (by omega)] | rw [if_neg (by omega), if_neg (by omega), if_pos (by omega)] | rw [if_neg (by omega), if_neg (by omega), if_neg (by omega)] | rw [if_neg (by omega), if_neg (by omega)] | rw [if_neg (by omega)])

def toM (τ : Sf) (p : Int) : Int := tot (τ 4) (fun r => scM τ r 0 p)
theorem toM_bd {τ : Sf} (hI : InvM τ) (p : Int) : -1 ≤ toM τ p ∧ toM τ p ≤ 529200000 := by
  obtain ⟨hn, hm, hmk, hys, hpu, hcu, hpl, hwe, hpr, hmi, hwo, hco, hch, hhp⟩ := id hI
  have := tl_bd (we := τ 4) (g := fun r => scM τ r 0 p) hwe (fun r => by have := scM_bd (r := r) (w := 0) (p := p) hI (by omega); show scM τ r 0 p = -1 ∨ (0 ≤ scM τ r 0 p ∧ scM τ r 0 p ≤ 17640000); omega) 3 0 0 (by omega)
  have e : toM τ p = tl (τ 4) (fun r => scM τ r 0 p) 3 0 0 := rfl
  rw [← e] at this
  omega
set_option maxHeartbeats 4000000 in
set_option maxRecDepth 100000 in
theorem c_X1_totalOf {E : Ev} {d : Nat} {τ ζ : Sf} {Q : Option Value → Sf → Sf → Prop} {p : Int} (hI : InvM τ) (hp : 0 ≤ p ∧ p < τ 20 0) (hQ : ∀ (z : Int) (ζ' : Sf), z = toM τ p → Q (some (.int (zI z))) τ ζ') : C E GM kX1_totalOf (d + 4) [.ref (eAd E 0), .int (zI p)] τ ζ Q := by
  refine C_of (by decide) rfl rfl ?_
  show R E GM kX1_totalOf (d + 4) 0 [some (.ref (eAd E 0)), some (.int (zI p)), none, none, none] [] τ ζ Q
  obtain ⟨hn, hm, hmk, hys, hpu, hcu, hpl, hwe, hpr, hmi, hwo, hco, hch, hhp⟩ := id hI
  have loop : ∀ (N : Nat) (r s : Int) (o : Option Value) (ζ' : Sf), N ≤ 3 → (N : Int) = 3 - r → tl (τ 4) (fun r => scM τ r 0 p) N r s = toM τ p → R E GM kX1_totalOf (d + 4) 4 [some (.ref (eAd E 0)), some (.int (zI p)), some (.int (zI s)), some (.int (zI r)), o] [] τ ζ' Q := by
    intro N
    induction N with
    | zero =>
      intro r s o ζ' hN3 hN ht
      refine R_iload_n dX1_totalOf_4 rfl ?_
      refine R_iconst dX1_totalOf_5 ?_
      refine R_icmp_ge (tgt := 53) (by omega) dX1_totalOf_6 (by decide) (fun c6 => ?_) (fun c6 => absurd c6 (by omega))
      refine R_iload_n dX1_totalOf_53 rfl ?_
      refine R_iret rfl dX1_totalOf_54 ?_
      exact hQ _ ζ' ht
    | succ N ih =>
      intro r s o ζ' hN3 hN ht
      have hwr := hwe r
      have hsc := scM_bd (r := r) (w := 0) (p := p) hI (by omega)
      rw [tl_S] at ht
      refine R_iload_n dX1_totalOf_4 rfl ?_
      refine R_iconst dX1_totalOf_5 ?_
      refine R_icmp_ge (tgt := 53) (by omega) dX1_totalOf_6 (by decide) (fun c6 => absurd c6 (by omega)) (fun c6 => ?_)
      refine R_aload_n dX1_totalOf_9 rfl ?_
      refine R_getR fX1_totalOf_33 dX1_totalOf_10 ?_
      refine R_iload_n dX1_totalOf_13 rfl ?_
      refine R_iald (q := 4) rfl rfl (by omega) rfl dX1_totalOf_14 ?_
      refine R_if_le (tgt := 47) (by omega) dX1_totalOf_15 (by decide) (fun c15 => ?_) (fun c15 => ?_)
      · refine R_iinc dX1_totalOf_47 rfl rfl rfl ?_
        refine R_goto (tgt := 4) dX1_totalOf_50 (by decide) ?_
        first
        | (rw [if_neg (show ¬ 0 < τ 4 r by omega)] at ht
           exact ih (r + 1) _ _ _ (by omega) (by omega) ht)
        | (rw [if_pos (show 0 < τ 4 r by omega), if_neg (by omega)] at ht
           exact ih (r + 1) _ _ _ (by omega) (by omega) ht)
      · refine R_aload_n dX1_totalOf_18 rfl ?_
        refine R_iload_n dX1_totalOf_19 rfl ?_
        refine R_iconst dX1_totalOf_20 ?_
        refine R_iload_n dX1_totalOf_21 rfl ?_
        refine R_callV3 (k2 := kX1_scoreOf) dX1_totalOf_22 rfl gX1_totalOf_X1_scoreOf kkX1_scoreOf rfl rfl (Nat.le_of_ble_eq_true rfl) (c_X1_scoreOf hI (by omega) (by omega) (by omega) (fun s22 ζ22 h22 hK22 => ?_))
        show R _ _ _ _ 25 _ [_] _ _ _
        subst h22
        refine R_istore dX1_totalOf_25 rfl rfl ?_
        refine R_iload dX1_totalOf_27 rfl ?_
        refine R_iconst dX1_totalOf_29 ?_
        refine R_icmp_ne (tgt := 35) (by omega) dX1_totalOf_30 (by decide) (fun c30 => ?_) (fun c30 => ?_)
        · refine R_iload_n dX1_totalOf_35 rfl ?_
          refine R_aload_n dX1_totalOf_36 rfl ?_
          refine R_getR fX1_totalOf_33 dX1_totalOf_37 ?_
          refine R_iload_n dX1_totalOf_40 rfl ?_
          refine R_iald (q := 4) rfl rfl (by omega) rfl dX1_totalOf_41 ?_
          refine R_iload dX1_totalOf_42 rfl ?_
          refine R_imul dX1_totalOf_44 ?_
          refine R_iadd dX1_totalOf_45 ?_
          refine R_istore_n dX1_totalOf_46 rfl rfl ?_
          refine R_iinc dX1_totalOf_47 rfl rfl rfl ?_
          refine R_goto (tgt := 4) dX1_totalOf_50 (by decide) ?_
          first
          | (rw [if_neg (show ¬ 0 < τ 4 r by omega)] at ht
             exact ih (r + 1) _ _ _ (by omega) (by omega) ht)
          | (rw [if_pos (show 0 < τ 4 r by omega), if_neg (by omega)] at ht
             exact ih (r + 1) _ _ _ (by omega) (by omega) ht)
        · refine R_iconst dX1_totalOf_33 ?_
          refine R_iret rfl dX1_totalOf_34 ?_
          rw [if_pos (show 0 < τ 4 r by omega), if_pos (by omega)] at ht
          exact hQ _ _ ht
  refine R_iconst dX1_totalOf_0 ?_
  refine R_istore_n dX1_totalOf_1 rfl rfl ?_
  refine R_iconst dX1_totalOf_2 ?_
  refine R_istore_n dX1_totalOf_3 rfl rfl ?_
  exact loop 3 0 0 none ζ (by omega) (by omega) rfl

def fMtotal (τ : Sf) (p : Int) : Int := if p < 0 ∨ τ 20 0 ≤ p then -101 else toM τ p
set_option maxHeartbeats 4000000 in
set_option maxRecDepth 100000 in
theorem c_X1_total {E : Ev} {d : Nat} {τ ζ : Sf} {Q : Option Value → Sf → Sf → Prop} {p : Int} (hI : InvM τ) (hrg : (-2147483648 ≤ p ∧ p < 2147483648)) (hQ : ∀ (z : Int) (ζ' : Sf), z = fMtotal τ p → Q (some (.int (zI z))) τ ζ') : C E GM kX1_total (d + 5) [.ref (eAd E 0), .int (zI p)] τ ζ Q := by
  refine C_of (by decide) rfl rfl ?_
  show R E GM kX1_total (d + 5) 0 [some (.ref (eAd E 0)), some (.int (zI p))] [] τ ζ Q
  obtain ⟨hn, hm, hmk, hys, hpu, hcu, hpl, hwe, hpr, hmi, hwo, hco, hch, hhp⟩ := id hI
  refine R_aload_n dX1_total_0 rfl ?_
  refine R_iload_n dX1_total_1 rfl ?_
  refine R_callV1 (k2 := kX1_isPlayer) dX1_total_2 rfl gX1_total_X1_isPlayer kkX1_isPlayer rfl rfl (Nat.le_of_ble_eq_true rfl) (c_X1_isPlayer hI (by omega) (fun b2 => ?_) (fun b2 => ?_))
  · show R _ _ _ _ 5 _ [_] _ _ _
    refine R_if_eq (tgt := 16) (by decide) dX1_total_5 (by decide) (fun h => absurd h (by decide)) (fun _ => ?_)
    refine R_aload_n dX1_total_8 rfl ?_
    refine R_iload_n dX1_total_9 rfl ?_
    refine R_callV1 (k2 := kX1_totalOf) dX1_total_10 rfl gX1_total_X1_totalOf kkX1_totalOf rfl rfl (Nat.le_of_ble_eq_true rfl) (c_X1_totalOf hI (by omega) (fun r10 ζ10 h10 => ?_))
    subst h10
    show R _ _ _ _ 13 _ [_] _ _ _
    refine R_goto (tgt := 18) dX1_total_13 (by decide) ?_
    refine R_iret rfl dX1_total_18 ?_
    exact hQ _ _ (by unfold fMtotal; first | rw [if_pos (by omega)] | rw [if_neg (by omega), if_pos (by omega)] | rw [if_neg (by omega), if_neg (by omega), if_pos (by omega)] | rw [if_neg (by omega), if_neg (by omega), if_neg (by omega)] | rw [if_neg (by omega), if_neg (by omega)] | rw [if_neg (by omega)])
  · show R _ _ _ _ 5 _ [_] _ _ _
    refine R_if_eq (tgt := 16) (by decide) dX1_total_5 (by decide) (fun _ => ?_) (fun h => absurd h (by decide))
    refine R_bipush dX1_total_16 (by decide) ?_
    refine R_iret rfl dX1_total_18 ?_
    exact hQ _ _ (by unfold fMtotal; first | rw [if_pos (by omega)] | rw [if_neg (by omega), if_pos (by omega)] | rw [if_neg (by omega), if_neg (by omega), if_pos (by omega)] | rw [if_neg (by omega), if_neg (by omega), if_neg (by omega)] | rw [if_neg (by omega), if_neg (by omega)] | rw [if_neg (by omega)])

set_option maxHeartbeats 4000000 in
set_option maxRecDepth 100000 in
theorem c_X1_lastOf {E : Ev} {d : Nat} {τ ζ : Sf} {Q : Option Value → Sf → Sf → Prop} {p : Int} (hI : InvM τ) (hp : 0 ≤ p ∧ p < τ 20 0) (hQ : ∀ (z : Int) (ζ' : Sf), z = plc (toM τ) (τ 20 0) p → Q (some (.int (zI z))) τ ζ') : C E GM kX1_lastOf (d + 5) [.ref (eAd E 0), .int (zI p)] τ ζ Q := by
  refine C_of (by decide) rfl rfl ?_
  show R E GM kX1_lastOf (d + 5) 0 [some (.ref (eAd E 0)), some (.int (zI p)), none, none, none] [] τ ζ Q
  obtain ⟨hn, hm, hmk, hys, hpu, hcu, hpl, hwe, hpr, hmi, hwo, hco, hch, hhp⟩ := id hI
  have hsp := toM_bd hI p
  have loop : ∀ (N : Nat) (q s : Int) (ζ' : Sf), (τ 20 0 - q).toNat = N → 0 ≤ q → q ≤ τ 20 0 → s + sm (fun q => if toM τ p < toM τ q then 1 else 0) q (τ 20 0) = plc (toM τ) (τ 20 0) p → R E GM kX1_lastOf (d + 5) 11 [some (.ref (eAd E 0)), some (.int (zI p)), some (.int (zI ((toM τ p)))), some (.int (zI s)), some (.int (zI q))] [] τ ζ' Q := by
    refine st_ind (fun N ih => ?_)
    intro q s ζ' hN hq hq2 hs
    have hsq := toM_bd hI q
    refine R_iload dX1_lastOf_11 rfl ?_
    refine R_aload_n dX1_lastOf_13 rfl ?_
    refine R_getI 20 fX1_lastOf_7 rfl rfl dX1_lastOf_14 ?_
    refine R_icmp_ge (tgt := 50) (by omega) dX1_lastOf_17 (by decide) (fun c17 => ?_) (fun c17 => ?_)
    · refine R_iload_n dX1_lastOf_50 rfl ?_
      refine R_iret rfl dX1_lastOf_51 ?_
      rw [sm_ge (by omega)] at hs
      exact hQ _ _ (by omega)
    · refine R_iload_n dX1_lastOf_20 rfl ?_
      refine R_iload dX1_lastOf_21 rfl ?_
      refine R_iload_n dX1_lastOf_23 rfl ?_
      refine R_icmp_eq (tgt := 41) (by omega) dX1_lastOf_24 (by decide) (fun c24 => ?_) (fun c24 => ?_)
      · refine R_iconst dX1_lastOf_41 ?_
        refine R_iadd dX1_lastOf_42 ?_
        refine R_istore_n dX1_lastOf_43 rfl rfl ?_
        refine R_iinc dX1_lastOf_44 rfl rfl rfl ?_
        refine R_goto (tgt := 11) dX1_lastOf_47 (by decide) ?_
        rw [sm_lt (by omega)] at hs
        first
        | (rw [if_pos (show toM τ p < toM τ q by omega)] at hs
           exact ih _ (by omega) (q + 1) _ _ rfl (by omega) (by omega) (by omega))
        | (rw [if_neg (show ¬ toM τ p < toM τ q by omega)] at hs
           exact ih _ (by omega) (q + 1) _ _ rfl (by omega) (by omega) (by omega))
        | (have e : q = p := by omega
           subst e
           rw [if_neg (show ¬ toM τ q < toM τ q by omega)] at hs
           exact ih _ (by omega) (q + 1) _ _ rfl (by omega) (by omega) (by omega))
      · refine R_aload_n dX1_lastOf_27 rfl ?_
        refine R_iload dX1_lastOf_28 rfl ?_
        refine R_callV1 (k2 := kX1_totalOf) dX1_lastOf_30 rfl gX1_lastOf_X1_totalOf kkX1_totalOf rfl rfl (Nat.le_of_ble_eq_true rfl) (c_X1_totalOf hI (by omega) (fun r30 ζ30 h30 => ?_))
        subst h30
        show R _ _ _ _ 33 _ [_, _] _ _ _
        refine R_iload_n dX1_lastOf_33 rfl ?_
        refine R_icmp_le (tgt := 41) (by omega) dX1_lastOf_34 (by decide) (fun c34 => ?_) (fun c34 => ?_)
        · refine R_iconst dX1_lastOf_41 ?_
          refine R_iadd dX1_lastOf_42 ?_
          refine R_istore_n dX1_lastOf_43 rfl rfl ?_
          refine R_iinc dX1_lastOf_44 rfl rfl rfl ?_
          refine R_goto (tgt := 11) dX1_lastOf_47 (by decide) ?_
          rw [sm_lt (by omega)] at hs
          first
          | (rw [if_pos (show toM τ p < toM τ q by omega)] at hs
             exact ih _ (by omega) (q + 1) _ _ rfl (by omega) (by omega) (by omega))
          | (rw [if_neg (show ¬ toM τ p < toM τ q by omega)] at hs
             exact ih _ (by omega) (q + 1) _ _ rfl (by omega) (by omega) (by omega))
          | (have e : q = p := by omega
             subst e
             rw [if_neg (show ¬ toM τ q < toM τ q by omega)] at hs
             exact ih _ (by omega) (q + 1) _ _ rfl (by omega) (by omega) (by omega))
        · refine R_iconst dX1_lastOf_37 ?_
          refine R_goto (tgt := 42) dX1_lastOf_38 (by decide) ?_
          refine R_iadd dX1_lastOf_42 ?_
          refine R_istore_n dX1_lastOf_43 rfl rfl ?_
          refine R_iinc dX1_lastOf_44 rfl rfl rfl ?_
          refine R_goto (tgt := 11) dX1_lastOf_47 (by decide) ?_
          rw [sm_lt (by omega)] at hs
          first
          | (rw [if_pos (show toM τ p < toM τ q by omega)] at hs
             exact ih _ (by omega) (q + 1) _ _ rfl (by omega) (by omega) (by omega))
          | (rw [if_neg (show ¬ toM τ p < toM τ q by omega)] at hs
             exact ih _ (by omega) (q + 1) _ _ rfl (by omega) (by omega) (by omega))
          | (have e : q = p := by omega
             subst e
             rw [if_neg (show ¬ toM τ q < toM τ q by omega)] at hs
             exact ih _ (by omega) (q + 1) _ _ rfl (by omega) (by omega) (by omega))
  refine R_aload_n dX1_lastOf_0 rfl ?_
  refine R_iload_n dX1_lastOf_1 rfl ?_
  refine R_callV1 (k2 := kX1_totalOf) dX1_lastOf_2 rfl gX1_lastOf_X1_totalOf kkX1_totalOf rfl rfl (Nat.le_of_ble_eq_true rfl) (c_X1_totalOf hI (by omega) (fun r2 ζ2 h2 => ?_))
  subst h2
  show R _ _ _ _ 5 _ [_] _ _ _
  refine R_istore_n dX1_lastOf_5 rfl rfl ?_
  refine R_iconst dX1_lastOf_6 ?_
  refine R_istore_n dX1_lastOf_7 rfl rfl ?_
  refine R_iconst dX1_lastOf_8 ?_
  refine R_istore dX1_lastOf_9 rfl rfl ?_
  exact loop _ 0 1 _ rfl (by omega) (by omega) rfl

def fMlast (τ : Sf) (p : Int) : Int := if p < 0 ∨ τ 20 0 ≤ p then -101 else plc (toM τ) (τ 20 0) p
set_option maxHeartbeats 4000000 in
set_option maxRecDepth 100000 in
theorem c_X1_last {E : Ev} {d : Nat} {τ ζ : Sf} {Q : Option Value → Sf → Sf → Prop} {p : Int} (hI : InvM τ) (hrg : (-2147483648 ≤ p ∧ p < 2147483648)) (hQ : ∀ (z : Int) (ζ' : Sf), z = fMlast τ p → Q (some (.int (zI z))) τ ζ') : C E GM kX1_last (d + 6) [.ref (eAd E 0), .int (zI p)] τ ζ Q := by
  refine C_of (by decide) rfl rfl ?_
  show R E GM kX1_last (d + 6) 0 [some (.ref (eAd E 0)), some (.int (zI p))] [] τ ζ Q
  obtain ⟨hn, hm, hmk, hys, hpu, hcu, hpl, hwe, hpr, hmi, hwo, hco, hch, hhp⟩ := id hI
  refine R_aload_n dX1_last_0 rfl ?_
  refine R_iload_n dX1_last_1 rfl ?_
  refine R_callV1 (k2 := kX1_isPlayer) dX1_last_2 rfl gX1_last_X1_isPlayer kkX1_isPlayer rfl rfl (Nat.le_of_ble_eq_true rfl) (c_X1_isPlayer hI (by omega) (fun b2 => ?_) (fun b2 => ?_))
  · show R _ _ _ _ 5 _ [_] _ _ _
    refine R_if_eq (tgt := 16) (by decide) dX1_last_5 (by decide) (fun h => absurd h (by decide)) (fun _ => ?_)
    refine R_aload_n dX1_last_8 rfl ?_
    refine R_iload_n dX1_last_9 rfl ?_
    refine R_callV1 (k2 := kX1_lastOf) dX1_last_10 rfl gX1_last_X1_lastOf kkX1_lastOf rfl rfl (Nat.le_of_ble_eq_true rfl) (c_X1_lastOf hI (by omega) (fun r10 ζ10 h10 => ?_))
    subst h10
    show R _ _ _ _ 13 _ [_] _ _ _
    refine R_goto (tgt := 18) dX1_last_13 (by decide) ?_
    refine R_iret rfl dX1_last_18 ?_
    exact hQ _ _ (by unfold fMlast; first | rw [if_pos (by omega)] | rw [if_neg (by omega), if_pos (by omega)] | rw [if_neg (by omega), if_neg (by omega), if_pos (by omega)] | rw [if_neg (by omega), if_neg (by omega), if_neg (by omega)] | rw [if_neg (by omega), if_neg (by omega)] | rw [if_neg (by omega)])
  · show R _ _ _ _ 5 _ [_] _ _ _
    refine R_if_eq (tgt := 16) (by decide) dX1_last_5 (by decide) (fun _ => ?_) (fun h => absurd h (by decide))
    refine R_bipush dX1_last_16 (by decide) ?_
    refine R_iret rfl dX1_last_18 ?_
    exact hQ _ _ (by unfold fMlast; first | rw [if_pos (by omega)] | rw [if_neg (by omega), if_pos (by omega)] | rw [if_neg (by omega), if_neg (by omega), if_pos (by omega)] | rw [if_neg (by omega), if_neg (by omega), if_neg (by omega)] | rw [if_neg (by omega), if_neg (by omega)] | rw [if_neg (by omega)])

set_option maxHeartbeats 4000000 in
set_option maxRecDepth 100000 in
theorem c_X1_winsOf {E : Ev} {d : Nat} {τ ζ : Sf} {Q : Option Value → Sf → Sf → Prop} {p : Int} (hI : InvM τ) (hp : 0 ≤ p ∧ p < τ 20 0) (hQ : ∀ (z : Int) (ζ' : Sf), z = shr (toM τ) (τ 5) (τ 20 0) p → Q (some (.int (zI z))) τ ζ') : C E GM kX1_winsOf (d + 6) [.ref (eAd E 0), .int (zI p)] τ ζ Q := by
  refine C_of (by decide) rfl rfl ?_
  show R E GM kX1_winsOf (d + 6) 0 [some (.ref (eAd E 0)), some (.int (zI p)), none, none, none, none, none] [] τ ζ Q
  obtain ⟨hn, hm, hmk, hys, hpu, hcu, hpl, hwe, hpr, hmi, hwo, hco, hch, hhp⟩ := id hI
  have hsp := toM_bd hI p
  have hpb := plc_bd (f := toM τ) (n := τ 20 0) (p := p) (by omega)
  have hsb := shc_bd (T := toM τ) hp
  have loop : ∀ (N : Nat) (q li s : Int) (ζ' : Sf), (τ 20 0 - q).toNat = N → 0 ≤ q → q ≤ τ 20 0 → toM τ p ≠ -1 → li = sm (fun q => if toM τ q = toM τ p then 1 else 0) 0 q → s = sm (pz (τ 5)) ((plc (toM τ) (τ 20 0) p) - 1) ((plc (toM τ) (τ 20 0) p) - 1 + li) → R E GM kX1_winsOf (d + 6) 28 [some (.ref (eAd E 0)), some (.int (zI p)), some (.int (zI ((toM τ p)))), some (.int (zI ((plc (toM τ) (τ 20 0) p)))), some (.int (zI li)), some (.int (zI s)), some (.int (zI q))] [] τ ζ' Q := by
    refine st_ind (fun N ih => ?_)
    intro q li s ζ' hN hq hq2 hne hli hs
    have hsq := toM_bd hI q
    have hlb := sm_bd (f := (fun q => if toM τ q = toM τ p then 1 else 0)) (lo := 0) (hi := 1) (b := q) 0 (fun i _ _ => by show 0 ≤ ite _ _ _ ∧ ite _ _ _ ≤ 1; split <;> omega) hq
    have hlS := sm_last (f := (fun q => if toM τ q = toM τ p then 1 else 0)) (b := q) 0 hq
    rw [← hli] at hlb hlS
    have hpS := sm_last (f := pz (τ 5)) (b := (plc (toM τ) (τ 20 0) p) - 1 + li) ((plc (toM τ) (τ 20 0) p) - 1) (by omega)
    rw [← hs] at hpS
    have hprS := hpr ((plc (toM τ) (τ 20 0) p) - 1 + li)
    have hpzb := sm_bd (f := pz (τ 5)) (lo := 0) (hi := 1000000) (b := (plc (toM τ) (τ 20 0) p) - 1 + li) ((plc (toM τ) (τ 20 0) p) - 1) (fun i _ _ => pz_bd hpr i) (by omega)
    rw [← hs] at hpzb
    have hpe : pz (τ 5) ((plc (toM τ) (τ 20 0) p) - 1 + li) = if (plc (toM τ) (τ 20 0) p) - 1 + li < 6 then τ 5 ((plc (toM τ) (τ 20 0) p) - 1 + li) else 0 := rfl
    refine R_iload dX1_winsOf_28 rfl ?_
    refine R_aload_n dX1_winsOf_30 rfl ?_
    refine R_getI 20 fX1_winsOf_7 rfl rfl dX1_winsOf_31 ?_
    refine R_icmp_ge (tgt := 87) (by omega) dX1_winsOf_34 (by decide) (fun c34 => ?_) (fun c34 => ?_)
    · have hls : li = shc (toM τ) (τ 20 0) p := by
        unfold shc
        rw [hli, show q = τ 20 0 by omega]
      refine R_iload dX1_winsOf_87 rfl ?_
      refine R_iload dX1_winsOf_89 rfl ?_
      refine R_idiv (by omega) dX1_winsOf_91 ?_
      refine R_iret rfl dX1_winsOf_92 ?_
      refine hQ _ _ ?_
      unfold shr
      rw [if_neg hne, ← hls, ← hs]
    · refine R_aload_n dX1_winsOf_37 rfl ?_
      refine R_iload dX1_winsOf_38 rfl ?_
      refine R_callV1 (k2 := kX1_totalOf) dX1_winsOf_40 rfl gX1_winsOf_X1_totalOf kkX1_totalOf rfl rfl (Nat.le_of_ble_eq_true rfl) (c_X1_totalOf hI (by omega) (fun r40 ζ40 h40 => ?_))
      subst h40
      show R _ _ _ _ 43 _ [_] _ _ _
      refine R_iload_n dX1_winsOf_43 rfl ?_
      refine R_icmp_ne (tgt := 81) (by omega) dX1_winsOf_44 (by decide) (fun c44 => ?_) (fun c44 => ?_)
      · refine R_iinc dX1_winsOf_81 rfl rfl rfl ?_
        refine R_goto (tgt := 28) dX1_winsOf_84 (by decide) ?_
        first
        | (rw [if_neg (show ¬ toM τ q = toM τ p by omega)] at hlS
           exact ih _ (by omega) (q + 1) _ _ _ rfl (by omega) (by omega) hne (by omega) hs)
        | (rw [if_pos (show toM τ q = toM τ p by omega)] at hlS
           first
           | (rw [if_pos (show (plc (toM τ) (τ 20 0) p) - 1 + li < 6 by omega)] at hpe
              exact ih _ (by omega) (q + 1) _ _ _ rfl (by omega) (by omega) hne (by omega) (by rw [show (plc (toM τ) (τ 20 0) p) - 1 + (li + 1) = (plc (toM τ) (τ 20 0) p) - 1 + li + 1 by omega]; omega))
           | (rw [if_neg (show ¬ (plc (toM τ) (τ 20 0) p) - 1 + li < 6 by omega)] at hpe
              exact ih _ (by omega) (q + 1) _ _ _ rfl (by omega) (by omega) hne (by omega) (by rw [show (plc (toM τ) (τ 20 0) p) - 1 + (li + 1) = (plc (toM τ) (τ 20 0) p) - 1 + li + 1 by omega]; omega)))
      · refine R_iload dX1_winsOf_47 rfl ?_
        refine R_iload_n dX1_winsOf_49 rfl ?_
        refine R_iconst dX1_winsOf_50 ?_
        refine R_isub dX1_winsOf_51 ?_
        refine R_iload dX1_winsOf_52 rfl ?_
        refine R_iadd dX1_winsOf_54 ?_
        refine R_bipush dX1_winsOf_55 (by decide) ?_
        refine R_icmp_ge (tgt := 74) (by omega) dX1_winsOf_57 (by decide) (fun c57 => ?_) (fun c57 => ?_)
        · refine R_iconst dX1_winsOf_74 ?_
          refine R_iadd dX1_winsOf_75 ?_
          refine R_istore dX1_winsOf_76 rfl rfl ?_
          refine R_iinc dX1_winsOf_78 rfl rfl rfl ?_
          refine R_iinc dX1_winsOf_81 rfl rfl rfl ?_
          refine R_goto (tgt := 28) dX1_winsOf_84 (by decide) ?_
          first
          | (rw [if_neg (show ¬ toM τ q = toM τ p by omega)] at hlS
             exact ih _ (by omega) (q + 1) _ _ _ rfl (by omega) (by omega) hne (by omega) hs)
          | (rw [if_pos (show toM τ q = toM τ p by omega)] at hlS
             first
             | (rw [if_pos (show (plc (toM τ) (τ 20 0) p) - 1 + li < 6 by omega)] at hpe
                exact ih _ (by omega) (q + 1) _ _ _ rfl (by omega) (by omega) hne (by omega) (by rw [show (plc (toM τ) (τ 20 0) p) - 1 + (li + 1) = (plc (toM τ) (τ 20 0) p) - 1 + li + 1 by omega]; omega))
             | (rw [if_neg (show ¬ (plc (toM τ) (τ 20 0) p) - 1 + li < 6 by omega)] at hpe
                exact ih _ (by omega) (q + 1) _ _ _ rfl (by omega) (by omega) hne (by omega) (by rw [show (plc (toM τ) (τ 20 0) p) - 1 + (li + 1) = (plc (toM τ) (τ 20 0) p) - 1 + li + 1 by omega]; omega)))
        · refine R_aload_n dX1_winsOf_60 rfl ?_
          refine R_getR fX1_winsOf_36 dX1_winsOf_61 ?_
          refine R_iload_n dX1_winsOf_64 rfl ?_
          refine R_iconst dX1_winsOf_65 ?_
          refine R_isub dX1_winsOf_66 ?_
          refine R_iload dX1_winsOf_67 rfl ?_
          refine R_iadd dX1_winsOf_69 ?_
          refine R_iald (q := 5) rfl rfl (by omega) rfl dX1_winsOf_70 ?_
          refine R_goto (tgt := 75) dX1_winsOf_71 (by decide) ?_
          refine R_iadd dX1_winsOf_75 ?_
          refine R_istore dX1_winsOf_76 rfl rfl ?_
          refine R_iinc dX1_winsOf_78 rfl rfl rfl ?_
          refine R_iinc dX1_winsOf_81 rfl rfl rfl ?_
          refine R_goto (tgt := 28) dX1_winsOf_84 (by decide) ?_
          first
          | (rw [if_neg (show ¬ toM τ q = toM τ p by omega)] at hlS
             exact ih _ (by omega) (q + 1) _ _ _ rfl (by omega) (by omega) hne (by omega) hs)
          | (rw [if_pos (show toM τ q = toM τ p by omega)] at hlS
             first
             | (rw [if_pos (show (plc (toM τ) (τ 20 0) p) - 1 + li < 6 by omega)] at hpe
                exact ih _ (by omega) (q + 1) _ _ _ rfl (by omega) (by omega) hne (by omega) (by rw [show (plc (toM τ) (τ 20 0) p) - 1 + (li + 1) = (plc (toM τ) (τ 20 0) p) - 1 + li + 1 by omega]; omega))
             | (rw [if_neg (show ¬ (plc (toM τ) (τ 20 0) p) - 1 + li < 6 by omega)] at hpe
                exact ih _ (by omega) (q + 1) _ _ _ rfl (by omega) (by omega) hne (by omega) (by rw [show (plc (toM τ) (τ 20 0) p) - 1 + (li + 1) = (plc (toM τ) (τ 20 0) p) - 1 + li + 1 by omega]; omega)))
  refine R_aload_n dX1_winsOf_0 rfl ?_
  refine R_iload_n dX1_winsOf_1 rfl ?_
  refine R_callV1 (k2 := kX1_totalOf) dX1_winsOf_2 rfl gX1_winsOf_X1_totalOf kkX1_totalOf rfl rfl (Nat.le_of_ble_eq_true rfl) (c_X1_totalOf hI (by omega) (fun r2 ζ2 h2 => ?_))
  subst h2
  show R _ _ _ _ 5 _ [_] _ _ _
  refine R_istore_n dX1_winsOf_5 rfl rfl ?_
  refine R_iload_n dX1_winsOf_6 rfl ?_
  refine R_iconst dX1_winsOf_7 ?_
  refine R_icmp_ne (tgt := 13) (by omega) dX1_winsOf_8 (by decide) (fun c8 => ?_) (fun c8 => ?_)
  · refine R_aload_n dX1_winsOf_13 rfl ?_
    refine R_iload_n dX1_winsOf_14 rfl ?_
    refine R_callV1 (k2 := kX1_lastOf) dX1_winsOf_15 rfl gX1_winsOf_X1_lastOf kkX1_lastOf rfl rfl (Nat.le_of_ble_eq_true rfl) (c_X1_lastOf hI (by omega) (fun r15 ζ15 h15 => ?_))
    subst h15
    show R _ _ _ _ 18 _ [_] _ _ _
    refine R_istore_n dX1_winsOf_18 rfl rfl ?_
    refine R_iconst dX1_winsOf_19 ?_
    refine R_istore dX1_winsOf_20 rfl rfl ?_
    refine R_iconst dX1_winsOf_22 ?_
    refine R_istore dX1_winsOf_23 rfl rfl ?_
    refine R_iconst dX1_winsOf_25 ?_
    refine R_istore dX1_winsOf_26 rfl rfl ?_
    exact loop _ 0 0 0 _ rfl (by omega) (by omega) c8 (sm_ge (by omega)).symm (sm_ge (by omega)).symm
  · refine R_iconst dX1_winsOf_11 ?_
    refine R_iret rfl dX1_winsOf_12 ?_
    exact hQ _ _ (by unfold shr; rw [if_pos (by omega)])

def fMwins (τ : Sf) (p : Int) : Int := if p < 0 ∨ τ 20 0 ≤ p then -101 else shr (toM τ) (τ 5) (τ 20 0) p
set_option maxHeartbeats 4000000 in
set_option maxRecDepth 100000 in
theorem c_X1_wins {E : Ev} {d : Nat} {τ ζ : Sf} {Q : Option Value → Sf → Sf → Prop} {p : Int} (hI : InvM τ) (hrg : (-2147483648 ≤ p ∧ p < 2147483648)) (hQ : ∀ (z : Int) (ζ' : Sf), z = fMwins τ p → Q (some (.int (zI z))) τ ζ') : C E GM kX1_wins (d + 7) [.ref (eAd E 0), .int (zI p)] τ ζ Q := by
  refine C_of (by decide) rfl rfl ?_
  show R E GM kX1_wins (d + 7) 0 [some (.ref (eAd E 0)), some (.int (zI p))] [] τ ζ Q
  obtain ⟨hn, hm, hmk, hys, hpu, hcu, hpl, hwe, hpr, hmi, hwo, hco, hch, hhp⟩ := id hI
  refine R_aload_n dX1_wins_0 rfl ?_
  refine R_iload_n dX1_wins_1 rfl ?_
  refine R_callV1 (k2 := kX1_isPlayer) dX1_wins_2 rfl gX1_wins_X1_isPlayer kkX1_isPlayer rfl rfl (Nat.le_of_ble_eq_true rfl) (c_X1_isPlayer hI (by omega) (fun b2 => ?_) (fun b2 => ?_))
  · show R _ _ _ _ 5 _ [_] _ _ _
    refine R_if_eq (tgt := 16) (by decide) dX1_wins_5 (by decide) (fun h => absurd h (by decide)) (fun _ => ?_)
    refine R_aload_n dX1_wins_8 rfl ?_
    refine R_iload_n dX1_wins_9 rfl ?_
    refine R_callV1 (k2 := kX1_winsOf) dX1_wins_10 rfl gX1_wins_X1_winsOf kkX1_winsOf rfl rfl (Nat.le_of_ble_eq_true rfl) (c_X1_winsOf hI (by omega) (fun r10 ζ10 h10 => ?_))
    subst h10
    show R _ _ _ _ 13 _ [_] _ _ _
    refine R_goto (tgt := 18) dX1_wins_13 (by decide) ?_
    refine R_iret rfl dX1_wins_18 ?_
    exact hQ _ _ (by unfold fMwins; first | rw [if_pos (by omega)] | rw [if_neg (by omega), if_pos (by omega)] | rw [if_neg (by omega), if_neg (by omega), if_pos (by omega)] | rw [if_neg (by omega), if_neg (by omega), if_neg (by omega)] | rw [if_neg (by omega), if_neg (by omega)] | rw [if_neg (by omega)])
  · show R _ _ _ _ 5 _ [_] _ _ _
    refine R_if_eq (tgt := 16) (by decide) dX1_wins_5 (by decide) (fun _ => ?_) (fun h => absurd h (by decide))
    refine R_bipush dX1_wins_16 (by decide) ?_
    refine R_iret rfl dX1_wins_18 ?_
    exact hQ _ _ (by unfold fMwins; first | rw [if_pos (by omega)] | rw [if_neg (by omega), if_pos (by omega)] | rw [if_neg (by omega), if_neg (by omega), if_pos (by omega)] | rw [if_neg (by omega), if_neg (by omega), if_neg (by omega)] | rw [if_neg (by omega), if_neg (by omega)] | rw [if_neg (by omega)])

def fMrest (τ : Sf) : Int := sm (τ 5) 0 6 - sm (shr (toM τ) (τ 5) (τ 20 0)) 0 (τ 20 0)
set_option maxHeartbeats 4000000 in
set_option maxRecDepth 100000 in
theorem c_X1_rest {E : Ev} {d : Nat} {τ ζ : Sf} {Q : Option Value → Sf → Sf → Prop} (hI : InvM τ) (hQ : ∀ (z : Int) (ζ' : Sf), z = fMrest τ → Q (some (.int (zI z))) τ ζ') : C E GM kX1_rest (d + 7) [.ref (eAd E 0)] τ ζ Q := by
  refine C_of (by decide) rfl rfl ?_
  show R E GM kX1_rest (d + 7) 0 [some (.ref (eAd E 0)), none, none] [] τ ζ Q
  obtain ⟨hn, hm, hmk, hys, hpu, hcu, hpl, hwe, hpr, hmi, hwo, hco, hch, hhp⟩ := id hI
  have loop2 : ∀ (N : Nat) (i s : Int) (ζ' : Sf), (τ 20 0 - i).toNat = N → 0 ≤ i → i ≤ τ 20 0 → s - sm (shr (toM τ) (τ 5) (τ 20 0)) i (τ 20 0) = fMrest τ → R E GM kX1_rest (d + 7) 27 [some (.ref (eAd E 0)), some (.int (zI s)), some (.int (zI i))] [] τ ζ' Q := by
    refine st_ind (fun N ih => ?_)
    intro i s ζ' hN hx hx2 hs
    refine R_iload_n dX1_rest_27 rfl ?_
    refine R_aload_n dX1_rest_28 rfl ?_
    refine R_getI 20 fX1_rest_7 rfl rfl dX1_rest_29 ?_
    refine R_icmp_ge (tgt := 49) (by omega) dX1_rest_32 (by decide) (fun c32 => ?_) (fun c32 => ?_)
    · refine R_iload_n dX1_rest_49 rfl ?_
      refine R_iret rfl dX1_rest_50 ?_
      rw [sm_ge (by omega)] at hs
      exact hQ _ _ (by omega)
    · refine R_iload_n dX1_rest_35 rfl ?_
      refine R_aload_n dX1_rest_36 rfl ?_
      refine R_iload_n dX1_rest_37 rfl ?_
      refine R_callV1 (k2 := kX1_winsOf) dX1_rest_38 rfl gX1_rest_X1_winsOf kkX1_winsOf rfl rfl (Nat.le_of_ble_eq_true rfl) (c_X1_winsOf hI (by omega) (fun r38 ζ38 h38 => ?_))
      subst h38
      show R _ _ _ _ 41 _ [_, _] _ _ _
      refine R_isub dX1_rest_41 ?_
      refine R_istore_n dX1_rest_42 rfl rfl ?_
      refine R_iinc dX1_rest_43 rfl rfl rfl ?_
      refine R_goto (tgt := 27) dX1_rest_46 (by decide) ?_
      exact ih _ (by omega) (i + 1) _ _ rfl (by omega) (by omega) (by rw [sm_lt (by omega)] at hs; omega)
  have loop1 : ∀ (N : Nat) (i s : Int), (6 - i).toNat = N → 0 ≤ i → i ≤ 6 → s + sm (τ 5) i 6 = sm (τ 5) 0 6 → R E GM kX1_rest (d + 7) 4 [some (.ref (eAd E 0)), some (.int (zI s)), some (.int (zI i))] [] τ ζ Q := by
    refine st_ind (fun N ih => ?_)
    intro i s hN hx hx2 hs
    refine R_iload_n dX1_rest_4 rfl ?_
    refine R_bipush dX1_rest_5 (by decide) ?_
    refine R_icmp_ge (tgt := 25) (by omega) dX1_rest_7 (by decide) (fun c7 => ?_) (fun c7 => ?_)
    · refine R_iconst dX1_rest_25 ?_
      refine R_istore_n dX1_rest_26 rfl rfl ?_
      rw [sm_ge (by omega)] at hs
      exact loop2 _ 0 _ ζ rfl (by omega) (by omega) (by unfold fMrest; omega)
    · refine R_iload_n dX1_rest_10 rfl ?_
      refine R_aload_n dX1_rest_11 rfl ?_
      refine R_getR fX1_rest_36 dX1_rest_12 ?_
      refine R_iload_n dX1_rest_15 rfl ?_
      refine R_iald (q := 5) rfl rfl (by omega) rfl dX1_rest_16 ?_
      refine R_iadd dX1_rest_17 ?_
      refine R_istore_n dX1_rest_18 rfl rfl ?_
      refine R_iinc dX1_rest_19 rfl rfl rfl ?_
      refine R_goto (tgt := 4) dX1_rest_22 (by decide) ?_
      exact ih _ (by omega) (i + 1) _ rfl (by omega) (by omega) (by rw [sm_lt (by omega)] at hs; omega)
  refine R_iconst dX1_rest_0 ?_
  refine R_istore_n dX1_rest_1 rfl rfl ?_
  refine R_iconst dX1_rest_2 ?_
  refine R_istore_n dX1_rest_3 rfl rfl ?_
  exact loop1 _ 0 0 rfl (by omega) (by omega) (by omega)

def chM (τ : Sf) (p : Int) : Int := if τ 32 0 = 1 then τ 9 p else -1
set_option maxHeartbeats 4000000 in
set_option maxRecDepth 100000 in
theorem c_X1_chosenOf {E : Ev} {d : Nat} {τ ζ : Sf} {Q : Option Value → Sf → Sf → Prop} {p : Int} (hI : InvM τ) (hp : 0 ≤ p ∧ p < 10) (hQ : ∀ z : Int, z = chM τ p → Q (some (.int (zI z))) τ ζ) : C E GM kX1_chosenOf d [.ref (eAd E 0), .int (zI p)] τ ζ Q := by
  refine C_of (by decide) rfl rfl ?_
  show R E GM kX1_chosenOf d 0 [some (.ref (eAd E 0)), some (.int (zI p))] [] τ ζ Q
  obtain ⟨hn, hm, hmk, hys, hpu, hcu, hpl, hwe, hpr, hmi, hwo, hco, hch, hhp⟩ := id hI
  refine R_aload_n dX1_chosenOf_0 rfl ?_
  refine R_getI 32 fX1_chosenOf_60 rfl rfl dX1_chosenOf_1 ?_
  refine R_if_eq (tgt := 16) (by omega) dX1_chosenOf_4 (by decide) (fun c4 => ?_) (fun c4 => ?_)
  · refine R_iconst dX1_chosenOf_16 ?_
    refine R_iret rfl dX1_chosenOf_17 ?_
    exact hQ _ (by unfold chM; first | rw [if_pos (by omega)] | rw [if_neg (by omega)])
  · refine R_aload_n dX1_chosenOf_7 rfl ?_
    refine R_getR fX1_chosenOf_48 dX1_chosenOf_8 ?_
    refine R_iload_n dX1_chosenOf_11 rfl ?_
    refine R_iald (q := 9) rfl rfl (by omega) rfl dX1_chosenOf_12 ?_
    refine R_goto (tgt := 17) dX1_chosenOf_13 (by decide) ?_
    refine R_iret rfl dX1_chosenOf_17 ?_
    exact hQ _ (by unfold chM; first | rw [if_pos (by omega)] | rw [if_neg (by omega)])

def fMchosen (τ : Sf) (p : Int) : Int := if p < 0 ∨ τ 20 0 ≤ p then -101 else chM τ p
set_option maxHeartbeats 4000000 in
set_option maxRecDepth 100000 in
theorem c_X1_chosen {E : Ev} {d : Nat} {τ ζ : Sf} {Q : Option Value → Sf → Sf → Prop} {p : Int} (hI : InvM τ) (hrg : (-2147483648 ≤ p ∧ p < 2147483648)) (hQ : ∀ (z : Int) (ζ' : Sf), z = fMchosen τ p → Q (some (.int (zI z))) τ ζ') : C E GM kX1_chosen (d + 2) [.ref (eAd E 0), .int (zI p)] τ ζ Q := by
  refine C_of (by decide) rfl rfl ?_
  show R E GM kX1_chosen (d + 2) 0 [some (.ref (eAd E 0)), some (.int (zI p))] [] τ ζ Q
  obtain ⟨hn, hm, hmk, hys, hpu, hcu, hpl, hwe, hpr, hmi, hwo, hco, hch, hhp⟩ := id hI
  refine R_aload_n dX1_chosen_0 rfl ?_
  refine R_iload_n dX1_chosen_1 rfl ?_
  refine R_callV1 (k2 := kX1_isPlayer) dX1_chosen_2 rfl gX1_chosen_X1_isPlayer kkX1_isPlayer rfl rfl (Nat.le_of_ble_eq_true rfl) (c_X1_isPlayer hI (by omega) (fun b2 => ?_) (fun b2 => ?_))
  · show R _ _ _ _ 5 _ [_] _ _ _
    refine R_if_eq (tgt := 16) (by decide) dX1_chosen_5 (by decide) (fun h => absurd h (by decide)) (fun _ => ?_)
    refine R_aload_n dX1_chosen_8 rfl ?_
    refine R_iload_n dX1_chosen_9 rfl ?_
    refine R_callV1 (k2 := kX1_chosenOf) dX1_chosen_10 rfl gX1_chosen_X1_chosenOf kkX1_chosenOf rfl rfl (Nat.le_of_ble_eq_true rfl) (c_X1_chosenOf hI (by omega) (fun r10 h10 => ?_))
    subst h10
    show R _ _ _ _ 13 _ [_] _ _ _
    refine R_goto (tgt := 18) dX1_chosen_13 (by decide) ?_
    refine R_iret rfl dX1_chosen_18 ?_
    exact hQ _ _ (by unfold fMchosen; first | rw [if_pos (by omega)] | rw [if_neg (by omega), if_pos (by omega)] | rw [if_neg (by omega), if_neg (by omega), if_pos (by omega)] | rw [if_neg (by omega), if_neg (by omega), if_neg (by omega)] | rw [if_neg (by omega), if_neg (by omega)] | rw [if_neg (by omega)])
  · show R _ _ _ _ 5 _ [_] _ _ _
    refine R_if_eq (tgt := 16) (by decide) dX1_chosen_5 (by decide) (fun _ => ?_) (fun h => absurd h (by decide))
    refine R_bipush dX1_chosen_16 (by decide) ?_
    refine R_iret rfl dX1_chosen_18 ?_
    exact hQ _ _ (by unfold fMchosen; first | rw [if_pos (by omega)] | rw [if_neg (by omega), if_pos (by omega)] | rw [if_neg (by omega), if_neg (by omega), if_pos (by omega)] | rw [if_neg (by omega), if_neg (by omega), if_neg (by omega)] | rw [if_neg (by omega), if_neg (by omega)] | rw [if_neg (by omega)])

def heM (τ : Sf) (w : Int) : Int := if τ 32 0 = 1 then τ 11 w else 0
def fMheard (τ : Sf) (w : Int) : Int := if w < 0 ∨ 11 < w then -101 else heM τ w
set_option maxHeartbeats 4000000 in
set_option maxRecDepth 100000 in
theorem c_X1_heard {E : Ev} {d : Nat} {τ ζ : Sf} {Q : Option Value → Sf → Sf → Prop} {w : Int} (hI : InvM τ) (hrg : (-2147483648 ≤ w ∧ w < 2147483648)) (hQ : ∀ (z : Int) (ζ' : Sf), z = fMheard τ w → Q (some (.int (zI z))) τ ζ') : C E GM kX1_heard (d + 1) [.ref (eAd E 0), .int (zI w)] τ ζ Q := by
  refine C_of (by decide) rfl rfl ?_
  show R E GM kX1_heard (d + 1) 0 [some (.ref (eAd E 0)), some (.int (zI w))] [] τ ζ Q
  obtain ⟨hn, hm, hmk, hys, hpu, hcu, hpl, hwe, hpr, hmi, hwo, hco, hch, hhp⟩ := id hI
  refine R_iload_n dX1_heard_0 rfl ?_
  refine R_iconst dX1_heard_1 ?_
  refine R_bipush dX1_heard_2 (by decide) ?_
  refine R_callS3 (k2 := kX1_in) dX1_heard_4 rfl gX1_heard_X1_in kkX1_in (Nat.le_of_ble_eq_true rfl) (c_X1_in (by omega) (fun b4 => ?_) (fun b4 => ?_))
  · show R _ _ _ _ 7 _ [_] _ _ _
    refine R_if_ne (tgt := 13) (by decide) dX1_heard_7 (by decide) (fun _ => ?_) (fun h => absurd h (by decide))
    refine R_aload_n dX1_heard_13 rfl ?_
    refine R_getI 32 fX1_heard_60 rfl rfl dX1_heard_14 ?_
    refine R_if_eq (tgt := 29) (by omega) dX1_heard_17 (by decide) (fun c17 => ?_) (fun c17 => ?_)
    · refine R_iconst dX1_heard_29 ?_
      refine R_iret rfl dX1_heard_30 ?_
      exact hQ _ _ (by unfold fMheard heM; first | rw [if_neg (by omega), if_pos (by omega)] | rw [if_neg (by omega), if_neg (by omega)])
    · refine R_aload_n dX1_heard_20 rfl ?_
      refine R_getR fX1_heard_54 dX1_heard_21 ?_
      refine R_iload_n dX1_heard_24 rfl ?_
      refine R_iald (q := 11) rfl rfl (by omega) rfl dX1_heard_25 ?_
      refine R_goto (tgt := 30) dX1_heard_26 (by decide) ?_
      refine R_iret rfl dX1_heard_30 ?_
      exact hQ _ _ (by unfold fMheard heM; first | rw [if_neg (by omega), if_pos (by omega)] | rw [if_neg (by omega), if_neg (by omega)])
  · show R _ _ _ _ 7 _ [_] _ _ _
    refine R_if_ne (tgt := 13) (by decide) dX1_heard_7 (by decide) (fun h => absurd h (by decide)) (fun _ => ?_)
    refine R_bipush dX1_heard_10 (by decide) ?_
    refine R_iret rfl dX1_heard_12 ?_
    exact hQ _ _ (by unfold fMheard; first | rw [if_pos (by omega)] | rw [if_neg (by omega), if_pos (by omega)] | rw [if_neg (by omega), if_neg (by omega), if_pos (by omega)] | rw [if_neg (by omega), if_neg (by omega), if_neg (by omega)] | rw [if_neg (by omega), if_neg (by omega)] | rw [if_neg (by omega)])

def fMcount (τ : Sf) (w : Int) : Int := if w = 0 then τ 20 0 else if w = 1 then τ 21 0 else if w = 2 then sm (fun i => if τ 1 i = -1 then 0 else 1) 0 210 else if w = 3 then sm (τ 2) 0 210 else if w = 4 then sm (τ 3) 0 70 else if w = 5 then sm (τ 7) 0 (τ 20 0) else -102
set_option maxHeartbeats 4000000 in
set_option maxRecDepth 100000 in
theorem c_X1_count {E : Ev} {d : Nat} {τ ζ : Sf} {Q : Option Value → Sf → Sf → Prop} {w : Int} (hI : InvM τ) (hrg : (-2147483648 ≤ w ∧ w < 2147483648)) (hQ : ∀ (z : Int) (ζ' : Sf), z = fMcount τ w → Q (some (.int (zI z))) τ ζ') : C E GM kX1_count d [.ref (eAd E 0), .int (zI w)] τ ζ Q := by
  refine C_of (by decide) rfl rfl ?_
  show R E GM kX1_count d 0 [some (.ref (eAd E 0)), some (.int (zI w)), none, none] [] τ ζ Q
  obtain ⟨hn, hm, hmk, hys, hpu, hcu, hpl, hwe, hpr, hmi, hwo, hco, hch, hhp⟩ := id hI
  by_cases hw : 0 ≤ w ∧ w ≤ 5
  · rcases (show w = 0 ∨ w = 1 ∨ w = 2 ∨ w = 3 ∨ w = 4 ∨ w = 5 by omega) with rfl | rfl | rfl | rfl | rfl | rfl
    · refine R_iconst dX1_count_0 ?_
      refine R_istore_n dX1_count_1 rfl rfl ?_
      refine R_iload_n dX1_count_2 rfl ?_
      refine R_tabIn (tgt := 40) (by decide) dX1_count_3 (by decide) (off := 37) rfl (by decide) ?_
      refine R_aload_n dX1_count_40 rfl ?_
      refine R_getI 20 fX1_count_7 rfl rfl dX1_count_41 ?_
      refine R_iret rfl dX1_count_44 ?_
      exact hQ _ _ rfl
    · refine R_iconst dX1_count_0 ?_
      refine R_istore_n dX1_count_1 rfl rfl ?_
      refine R_iload_n dX1_count_2 rfl ?_
      refine R_tabIn (tgt := 45) (by decide) dX1_count_3 (by decide) (off := 42) rfl (by decide) ?_
      refine R_aload_n dX1_count_45 rfl ?_
      refine R_getI 21 fX1_count_13 rfl rfl dX1_count_46 ?_
      refine R_iret rfl dX1_count_49 ?_
      exact hQ _ _ rfl
    · have loop : ∀ (N : Nat) (i s : Int), (210 - i).toNat = N → 0 ≤ i → i ≤ 210 → s + sm (fun i => if τ 1 i = -1 then 0 else 1) i 210 = sm (fun i => if τ 1 i = -1 then 0 else 1) 0 210 → R E GM kX1_count d 52 [some (.ref (eAd E 0)), some (.int (zI 2)), some (.int (zI s)), some (.int (zI i))] [] τ ζ Q := by
        refine st_ind (fun N ih => ?_)
        intro i s hN hx hx2 hs
        have hmi := hmk i
        refine R_iload_n dX1_count_52 rfl ?_
        refine R_sipush dX1_count_53 (by decide) ?_
        refine R_icmp_ge (tgt := 83) (by omega) dX1_count_56 (by decide) (fun c56 => ?_) (fun c56 => ?_)
        · refine R_iload_n dX1_count_83 rfl ?_
          refine R_iret rfl dX1_count_84 ?_
          rw [sm_ge (by omega)] at hs
          exact hQ _ _ (by show _ = sm (fun i => if τ 1 i = -1 then 0 else 1) 0 210; omega)
        · refine R_iload_n dX1_count_59 rfl ?_
          refine R_aload_n dX1_count_60 rfl ?_
          refine R_getR fX1_count_16 dX1_count_61 ?_
          refine R_iload_n dX1_count_64 rfl ?_
          refine R_iald (q := 1) rfl rfl (by omega) rfl dX1_count_65 ?_
          refine R_iconst dX1_count_66 ?_
          refine R_icmp_ne (tgt := 74) (by omega) dX1_count_67 (by decide) (fun c67 => ?_) (fun c67 => ?_)
          · refine R_iconst dX1_count_74 ?_
            refine R_iadd dX1_count_75 ?_
            refine R_istore_n dX1_count_76 rfl rfl ?_
            refine R_iinc dX1_count_77 rfl rfl rfl ?_
            refine R_goto (tgt := 52) dX1_count_80 (by decide) ?_
            rw [sm_lt (by omega)] at hs
            refine ih _ (by omega) (i + 1) _ rfl (by omega) (by omega) ?_
            first
            | omega
            | (rw [if_pos (show τ 1 i = -1 by omega)] at hs
               omega)
            | (rw [if_neg (show ¬ τ 1 i = -1 by omega)] at hs
               omega)
          · refine R_iconst dX1_count_70 ?_
            refine R_goto (tgt := 75) dX1_count_71 (by decide) ?_
            refine R_iadd dX1_count_75 ?_
            refine R_istore_n dX1_count_76 rfl rfl ?_
            refine R_iinc dX1_count_77 rfl rfl rfl ?_
            refine R_goto (tgt := 52) dX1_count_80 (by decide) ?_
            rw [sm_lt (by omega)] at hs
            refine ih _ (by omega) (i + 1) _ rfl (by omega) (by omega) ?_
            first
            | omega
            | (rw [if_pos (show τ 1 i = -1 by omega)] at hs
               omega)
            | (rw [if_neg (show ¬ τ 1 i = -1 by omega)] at hs
               omega)
      refine R_iconst dX1_count_0 ?_
      refine R_istore_n dX1_count_1 rfl rfl ?_
      refine R_iload_n dX1_count_2 rfl ?_
      refine R_tabIn (tgt := 50) (by decide) dX1_count_3 (by decide) (off := 47) rfl (by decide) ?_
      refine R_iconst dX1_count_50 ?_
      refine R_istore_n dX1_count_51 rfl rfl ?_
      exact loop _ 0 0 rfl (by omega) (by omega) (by omega)
    · have loop : ∀ (N : Nat) (i s : Int), (210 - i).toNat = N → 0 ≤ i → i ≤ 210 → s + sm (τ 2) i 210 = sm (τ 2) 0 210 → R E GM kX1_count d 87 [some (.ref (eAd E 0)), some (.int (zI 3)), some (.int (zI s)), some (.int (zI i))] [] τ ζ Q := by
        refine st_ind (fun N ih => ?_)
        intro i s hN hx hx2 hs
        have hyi := hys i
        refine R_iload_n dX1_count_87 rfl ?_
        refine R_sipush dX1_count_88 (by decide) ?_
        refine R_icmp_ge (tgt := 117) (by omega) dX1_count_91 (by decide) (fun c91 => ?_) (fun c91 => ?_)
        · refine R_iload_n dX1_count_117 rfl ?_
          refine R_iret rfl dX1_count_118 ?_
          rw [sm_ge (by omega)] at hs
          exact hQ _ _ (by show _ = sm (τ 2) 0 210; omega)
        · refine R_iload_n dX1_count_94 rfl ?_
          refine R_aload_n dX1_count_95 rfl ?_
          refine R_getR fX1_count_20 dX1_count_96 ?_
          refine R_iload_n dX1_count_99 rfl ?_
          refine R_bald (q := 2) rfl rfl rfl (by omega) rfl dX1_count_100 ?_
          refine R_if_eq (tgt := 108) (by omega) dX1_count_101 (by decide) (fun c101 => ?_) (fun c101 => ?_)
          · refine R_iconst dX1_count_108 ?_
            refine R_iadd dX1_count_109 ?_
            refine R_istore_n dX1_count_110 rfl rfl ?_
            refine R_iinc dX1_count_111 rfl rfl rfl ?_
            refine R_goto (tgt := 87) dX1_count_114 (by decide) ?_
            rw [sm_lt (by omega)] at hs
            refine ih _ (by omega) (i + 1) _ rfl (by omega) (by omega) ?_
            first
            | omega
            | (rw [if_pos (show τ 1 i = -1 by omega)] at hs
               omega)
            | (rw [if_neg (show ¬ τ 1 i = -1 by omega)] at hs
               omega)
          · refine R_iconst dX1_count_104 ?_
            refine R_goto (tgt := 109) dX1_count_105 (by decide) ?_
            refine R_iadd dX1_count_109 ?_
            refine R_istore_n dX1_count_110 rfl rfl ?_
            refine R_iinc dX1_count_111 rfl rfl rfl ?_
            refine R_goto (tgt := 87) dX1_count_114 (by decide) ?_
            rw [sm_lt (by omega)] at hs
            refine ih _ (by omega) (i + 1) _ rfl (by omega) (by omega) ?_
            first
            | omega
            | (rw [if_pos (show τ 1 i = -1 by omega)] at hs
               omega)
            | (rw [if_neg (show ¬ τ 1 i = -1 by omega)] at hs
               omega)
      refine R_iconst dX1_count_0 ?_
      refine R_istore_n dX1_count_1 rfl rfl ?_
      refine R_iload_n dX1_count_2 rfl ?_
      refine R_tabIn (tgt := 85) (by decide) dX1_count_3 (by decide) (off := 82) rfl (by decide) ?_
      refine R_iconst dX1_count_85 ?_
      refine R_istore_n dX1_count_86 rfl rfl ?_
      exact loop _ 0 0 rfl (by omega) (by omega) (by omega)
    · have loop : ∀ (N : Nat) (i s : Int), (70 - i).toNat = N → 0 ≤ i → i ≤ 70 → s + sm (τ 3) i 70 = sm (τ 3) 0 70 → R E GM kX1_count d 121 [some (.ref (eAd E 0)), some (.int (zI 4)), some (.int (zI s)), some (.int (zI i))] [] τ ζ Q := by
        refine st_ind (fun N ih => ?_)
        intro i s hN hx hx2 hs
        have hpi := hpu i
        refine R_iload_n dX1_count_121 rfl ?_
        refine R_bipush dX1_count_122 (by decide) ?_
        refine R_icmp_ge (tgt := 150) (by omega) dX1_count_124 (by decide) (fun c124 => ?_) (fun c124 => ?_)
        · refine R_iload_n dX1_count_150 rfl ?_
          refine R_iret rfl dX1_count_151 ?_
          rw [sm_ge (by omega)] at hs
          exact hQ _ _ (by show _ = sm (τ 3) 0 70; omega)
        · refine R_iload_n dX1_count_127 rfl ?_
          refine R_aload_n dX1_count_128 rfl ?_
          refine R_getR fX1_count_24 dX1_count_129 ?_
          refine R_iload_n dX1_count_132 rfl ?_
          refine R_bald (q := 3) rfl rfl rfl (by omega) rfl dX1_count_133 ?_
          refine R_if_eq (tgt := 141) (by omega) dX1_count_134 (by decide) (fun c134 => ?_) (fun c134 => ?_)
          · refine R_iconst dX1_count_141 ?_
            refine R_iadd dX1_count_142 ?_
            refine R_istore_n dX1_count_143 rfl rfl ?_
            refine R_iinc dX1_count_144 rfl rfl rfl ?_
            refine R_goto (tgt := 121) dX1_count_147 (by decide) ?_
            rw [sm_lt (by omega)] at hs
            refine ih _ (by omega) (i + 1) _ rfl (by omega) (by omega) ?_
            first
            | omega
            | (rw [if_pos (show τ 1 i = -1 by omega)] at hs
               omega)
            | (rw [if_neg (show ¬ τ 1 i = -1 by omega)] at hs
               omega)
          · refine R_iconst dX1_count_137 ?_
            refine R_goto (tgt := 142) dX1_count_138 (by decide) ?_
            refine R_iadd dX1_count_142 ?_
            refine R_istore_n dX1_count_143 rfl rfl ?_
            refine R_iinc dX1_count_144 rfl rfl rfl ?_
            refine R_goto (tgt := 121) dX1_count_147 (by decide) ?_
            rw [sm_lt (by omega)] at hs
            refine ih _ (by omega) (i + 1) _ rfl (by omega) (by omega) ?_
            first
            | omega
            | (rw [if_pos (show τ 1 i = -1 by omega)] at hs
               omega)
            | (rw [if_neg (show ¬ τ 1 i = -1 by omega)] at hs
               omega)
      refine R_iconst dX1_count_0 ?_
      refine R_istore_n dX1_count_1 rfl rfl ?_
      refine R_iload_n dX1_count_2 rfl ?_
      refine R_tabIn (tgt := 119) (by decide) dX1_count_3 (by decide) (off := 116) rfl (by decide) ?_
      refine R_iconst dX1_count_119 ?_
      refine R_istore_n dX1_count_120 rfl rfl ?_
      exact loop _ 0 0 rfl (by omega) (by omega) (by omega)
    · have loop : ∀ (N : Nat) (i s : Int), ((τ 20 0) - i).toNat = N → 0 ≤ i → i ≤ (τ 20 0) → s + sm (τ 7) i (τ 20 0) = sm (τ 7) 0 (τ 20 0) → R E GM kX1_count d 154 [some (.ref (eAd E 0)), some (.int (zI 5)), some (.int (zI s)), some (.int (zI i))] [] τ ζ Q := by
        refine st_ind (fun N ih => ?_)
        intro i s hN hx hx2 hs
        have hci := hco i
        refine R_iload_n dX1_count_154 rfl ?_
        refine R_aload_n dX1_count_155 rfl ?_
        refine R_getI 20 fX1_count_7 rfl rfl dX1_count_156 ?_
        refine R_icmp_ge (tgt := 177) (by omega) dX1_count_159 (by decide) (fun c159 => ?_) (fun c159 => ?_)
        · refine R_iload_n dX1_count_177 rfl ?_
          refine R_iret rfl dX1_count_178 ?_
          rw [sm_ge (by omega)] at hs
          exact hQ _ _ (by show _ = sm (τ 7) 0 (τ 20 0); omega)
        · refine R_iload_n dX1_count_162 rfl ?_
          refine R_aload_n dX1_count_163 rfl ?_
          refine R_getR fX1_count_42 dX1_count_164 ?_
          refine R_iload_n dX1_count_167 rfl ?_
          refine R_iald (q := 7) rfl rfl (by omega) rfl dX1_count_168 ?_
          refine R_iadd dX1_count_169 ?_
          refine R_istore_n dX1_count_170 rfl rfl ?_
          refine R_iinc dX1_count_171 rfl rfl rfl ?_
          refine R_goto (tgt := 154) dX1_count_174 (by decide) ?_
          rw [sm_lt (by omega)] at hs
          refine ih _ (by omega) (i + 1) _ rfl (by omega) (by omega) ?_
          first
          | omega
          | (rw [if_pos (show τ 1 i = -1 by omega)] at hs
             omega)
          | (rw [if_neg (show ¬ τ 1 i = -1 by omega)] at hs
             omega)
      refine R_iconst dX1_count_0 ?_
      refine R_istore_n dX1_count_1 rfl rfl ?_
      refine R_iload_n dX1_count_2 rfl ?_
      refine R_tabIn (tgt := 152) (by decide) dX1_count_3 (by decide) (off := 149) rfl (by decide) ?_
      refine R_iconst dX1_count_152 ?_
      refine R_istore_n dX1_count_153 rfl rfl ?_
      exact loop _ 0 0 rfl (by omega) (by omega) (by omega)
  · refine R_iconst dX1_count_0 ?_
    refine R_istore_n dX1_count_1 rfl rfl ?_
    refine R_iload_n dX1_count_2 rfl ?_
    refine R_tabOut (tgt := 179) (by omega) dX1_count_3 (by omega) (by decide) ?_
    refine R_bipush dX1_count_179 (by decide) ?_
    refine R_iret rfl dX1_count_181 ?_
    exact hQ _ _ (by unfold fMcount; rw [if_neg (by omega), if_neg (by omega), if_neg (by omega), if_neg (by omega), if_neg (by omega), if_neg (by omega)])

def hrF (H : Int → Int) (x t : Int) : Int → Int := fun w => if 0 ≤ w ∧ w < 12 then H w + x / p2 w % 2 * t else H w
def hrA (τ : Sf) (a x t : Int) : Sf := fun k => if k = 11 then (fun w => if a ≤ w ∧ w < 12 then τ 11 w + x / p2 w % 2 * t else τ 11 w) else τ k
theorem hrA_ge {τ : Sf} {a x t : Int} (h : 12 ≤ a) : hrA τ a x t = τ := by
  funext k w
  unfold hrA
  by_cases hk : k = 11
  · subst hk
    rw [if_pos rfl]
    show (if a ≤ w ∧ w < 12 then _ else τ 11 w) = τ 11 w
    rw [if_neg (by omega)]
  · rw [if_neg hk]
theorem hrA_lt {τ : Sf} {a x t : Int} (h : a < 12) : hrA (up τ 11 a (τ 11 a + x / p2 a % 2 * t)) (a + 1) x t = hrA τ a x t := by
  funext k w
  unfold hrA
  by_cases hk : k = 11
  · subst hk
    rw [if_pos rfl, if_pos rfl]
    show (if a + 1 ≤ w ∧ w < 12 then up τ 11 a (τ 11 a + x / p2 a % 2 * t) 11 w + x / p2 w % 2 * t else up τ 11 a (τ 11 a + x / p2 a % 2 * t) 11 w) = if a ≤ w ∧ w < 12 then τ 11 w + x / p2 w % 2 * t else τ 11 w
    rw [up_at]
    by_cases hw : w = a
    · subst hw
      rw [if_neg (by omega), if_pos rfl, if_pos (by omega)]
    · rw [if_neg hw]
      by_cases h2 : a ≤ w ∧ w < 12
      · rw [if_pos h2, if_pos (by omega)]
      · rw [if_neg h2, if_neg (by omega)]
  · rw [if_neg hk, if_neg hk, up_ne hk]
set_option maxHeartbeats 4000000 in
set_option maxRecDepth 100000 in
theorem c_X1_hear {E : Ev} {d : Nat} {τ ζ : Sf} {Q : Option Value → Sf → Sf → Prop} {x t : Int} (hx : 0 ≤ x ∧ x ≤ 4095) (hQ : Q none (hrA τ 0 x t) ζ) : C E GM kX1_hear d [.ref (eAd E 0), .int (zI x), .int (zI t)] τ ζ Q := by
  refine C_of (by decide) rfl rfl ?_
  show R E GM kX1_hear d 0 [some (.ref (eAd E 0)), some (.int (zI x)), some (.int (zI t)), none] [] τ ζ Q
  have loop : ∀ (N : Nat) (w : Int) (τ' : Sf), (12 - w).toNat = N → 0 ≤ w → w ≤ 12 → hrA τ' w x t = hrA τ 0 x t → R E GM kX1_hear d 2 [some (.ref (eAd E 0)), some (.int (zI x)), some (.int (zI t)), some (.int (zI w))] [] τ' ζ Q := by
    refine st_ind (fun N ih => ?_)
    intro w τ' hN hw hw2 hf
    refine R_iload_n dX1_hear_2 rfl ?_
    refine R_bipush dX1_hear_3 (by decide) ?_
    refine R_icmp_ge (tgt := 30) (by omega) dX1_hear_5 (by decide) (fun c5 => ?_) (fun c5 => ?_)
    · refine R_vret rfl dX1_hear_30 ?_
      rw [hrA_ge (by omega)] at hf
      rw [hf]
      exact hQ
    · have hdv := Int.ediv_nonneg (a := x) (b := p2 w) (by omega) (by have := p2_pos w; omega)
      refine R_aload_n dX1_hear_8 rfl ?_
      refine R_getR fX1_hear_54 dX1_hear_9 ?_
      refine R_iload_n dX1_hear_12 rfl ?_
      refine R_dup2 rfl rfl dX1_hear_13 ?_
      refine R_iald (q := 11) rfl rfl (by omega) rfl dX1_hear_14 ?_
      refine R_iload_n dX1_hear_15 rfl ?_
      refine R_iload_n dX1_hear_16 rfl ?_
      refine R_ishr _ (zI_shr (by omega) (by omega)) dX1_hear_17 ?_
      refine R_iconst dX1_hear_18 ?_
      refine R_iand _ (zI_and1 hdv) dX1_hear_19 ?_
      refine R_iload_n dX1_hear_20 rfl ?_
      refine R_imul dX1_hear_21 ?_
      refine R_iadd dX1_hear_22 ?_
      refine R_iast (q := 11) GMok rfl rfl (by omega) rfl dX1_hear_23 ?_
      refine R_iinc dX1_hear_24 rfl rfl rfl ?_
      refine R_goto (tgt := 2) dX1_hear_27 (by decide) ?_
      exact ih _ (by omega) (w + 1) _ rfl (by omega) (by omega) (by rw [hrA_lt (by omega)]; exact hf)
  refine R_iconst dX1_hear_0 ?_
  refine R_istore_n dX1_hear_1 rfl rfl ?_
  exact loop _ 0 τ rfl (by omega) (by omega) rfl

def bad (H : Int → Int) (x t : Int) : Int := sm (fun w => if x / p2 w % 2 = 1 ∧ ¬ H w < t then 1 else 0) 0 12
set_option maxHeartbeats 4000000 in
set_option maxRecDepth 100000 in
theorem c_X1_mayBe {E : Ev} {d : Nat} {τ ζ : Sf} {Q : Option Value → Sf → Sf → Prop} {x lo hi t : Int} (hx : 0 ≤ x ∧ x ≤ 4095) (hlo : 0 ≤ lo ∧ lo ≤ 720) (hhi : 0 ≤ hi ∧ hi ≤ 720) (ht : 1 ≤ t ∧ t ≤ 3) (hmi : ∀ i, 1 ≤ τ 6 i ∧ τ 6 i ≤ 60) (hh : ∀ w, 0 ≤ w → w < 12 → 0 ≤ τ 11 w ∧ τ 11 w ≤ 100) (h1 : (lo ≤ mnt (τ 6) x ∧ mnt (τ 6) x ≤ hi) ∧ bad (τ 11) x t = 0 → Q (some (.int (zI 1))) τ ζ) (h0 : ¬ ((lo ≤ mnt (τ 6) x ∧ mnt (τ 6) x ≤ hi) ∧ bad (τ 11) x t = 0) → Q (some (.int (zI 0))) τ ζ) : C E GM kX1_mayBe (d + 1) [.ref (eAd E 0), .int (zI x), .int (zI lo), .int (zI hi), .int (zI t)] τ ζ Q := by
  refine C_of (by decide) rfl rfl ?_
  show R E GM kX1_mayBe (d + 1) 0 [some (.ref (eAd E 0)), some (.int (zI x)), some (.int (zI lo)), some (.int (zI hi)), some (.int (zI t)), none, none, none] [] τ ζ Q
  have hmb := mnt_bd hmi x
  have loop : ∀ (N : Nat) (w s y : Int), (12 - w).toNat = N → 0 ≤ w → w ≤ 12 → s + sm (fun w => if x / p2 w % 2 = 1 then τ 6 w else 0) w 12 = mnt (τ 6) x → ((y = 1 ∧ sm (fun w => if x / p2 w % 2 = 1 ∧ ¬ τ 11 w < t then 1 else 0) w 12 = bad (τ 11) x t) ∨ (y = 0 ∧ bad (τ 11) x t ≠ 0)) → R E GM kX1_mayBe (d + 1) 9 [some (.ref (eAd E 0)), some (.int (zI x)), some (.int (zI lo)), some (.int (zI hi)), some (.int (zI t)), some (.int (zI s)), some (.int (zI y)), some (.int (zI w))] [] τ ζ Q := by
    refine st_ind (fun N ih => ?_)
    intro w s y hN hw hw2 hs hy
    have hbn : ∀ a : Int, 0 ≤ sm (fun w => if x / p2 w % 2 = 1 ∧ ¬ τ 11 w < t then 1 else 0) a 12 := fun a => sm_nonneg a (fun i _ _ => by show 0 ≤ ite _ _ _; split <;> omega)
    have hb2 := hbn (w + 1)
    refine R_iload dX1_mayBe_9 rfl ?_
    refine R_bipush dX1_mayBe_11 (by decide) ?_
    refine R_icmp_ge (tgt := 68) (by omega) dX1_mayBe_13 (by decide) (fun c13 => ?_) (fun c13 => ?_)
    · rw [sm_ge (by omega)] at hs
      rw [sm_ge (show (12 : Int) ≤ w by omega)] at hy
      refine R_iload dX1_mayBe_68 rfl ?_
      refine R_if_eq (tgt := 87) (by omega) dX1_mayBe_70 (by decide) (fun c70 => ?_) (fun c70 => ?_)
      · refine R_iconst dX1_mayBe_87 ?_
        refine R_zret rfl (by decide) dX1_mayBe_88 ?_
        exact h0 (by omega)
      · refine R_iload dX1_mayBe_73 rfl ?_
        refine R_iload_n dX1_mayBe_75 rfl ?_
        refine R_iload_n dX1_mayBe_76 rfl ?_
        refine R_callS3 (k2 := kX1_in) dX1_mayBe_77 rfl gX1_mayBe_X1_in kkX1_in (Nat.le_of_ble_eq_true rfl) (c_X1_in (by omega) (fun b77 => ?_) (fun b77 => ?_))
        · show R _ _ _ _ 80 _ [_] _ _ _
          refine R_if_eq (tgt := 87) (by decide) dX1_mayBe_80 (by decide) (fun h => absurd h (by decide)) (fun _ => ?_)
          refine R_iconst dX1_mayBe_83 ?_
          refine R_goto (tgt := 88) dX1_mayBe_84 (by decide) ?_
          refine R_zret rfl (by decide) dX1_mayBe_88 ?_
          exact h1 (by omega)
        · show R _ _ _ _ 80 _ [_] _ _ _
          refine R_if_eq (tgt := 87) (by decide) dX1_mayBe_80 (by decide) (fun _ => ?_) (fun h => absurd h (by decide))
          refine R_iconst dX1_mayBe_87 ?_
          refine R_zret rfl (by decide) dX1_mayBe_88 ?_
          exact h0 (by omega)
    · have hdv := Int.ediv_nonneg (a := x) (b := p2 w) (by omega) (by have := p2_pos w; omega)
      have hhw := hh w hw (by omega)
      refine R_iload_n dX1_mayBe_16 rfl ?_
      refine R_iload dX1_mayBe_17 rfl ?_
      refine R_ishr _ (zI_shr (by omega) (by omega)) dX1_mayBe_19 ?_
      refine R_iconst dX1_mayBe_20 ?_
      refine R_iand _ (zI_and1 hdv) dX1_mayBe_21 ?_
      refine R_iconst dX1_mayBe_22 ?_
      refine R_icmp_ne (tgt := 62) (by omega) dX1_mayBe_23 (by decide) (fun c23 => ?_) (fun c23 => ?_)
      · refine R_iinc dX1_mayBe_62 rfl rfl rfl ?_
        refine R_goto (tgt := 9) dX1_mayBe_65 (by decide) ?_
        rw [sm_lt (show w < 12 by omega)] at hs hy
        have hcase : x / p2 w % 2 = 1 ∨ ¬ x / p2 w % 2 = 1 := by omega
        first
        | (rw [if_neg (show ¬ x / p2 w % 2 = 1 by omega)] at hs
           rw [if_neg (show ¬ (x / p2 w % 2 = 1 ∧ ¬ τ 11 w < t) by omega)] at hy
           exact ih _ (by omega) (w + 1) _ _ rfl (by omega) (by omega) (by omega) (by omega))
        | (rw [if_pos (show x / p2 w % 2 = 1 by omega)] at hs
           first
           | (rw [if_neg (show ¬ (x / p2 w % 2 = 1 ∧ ¬ τ 11 w < t) by omega)] at hy
              exact ih _ (by omega) (w + 1) _ _ rfl (by omega) (by omega) (by omega) (by omega))
           | (rw [if_pos (show x / p2 w % 2 = 1 ∧ ¬ τ 11 w < t by omega)] at hy
              exact ih _ (by omega) (w + 1) _ _ rfl (by omega) (by omega) (by omega) (by omega))
           | exact ih _ (by omega) (w + 1) _ _ rfl (by omega) (by omega) (by omega) (by omega))
      · refine R_iload dX1_mayBe_26 rfl ?_
        refine R_aload_n dX1_mayBe_28 rfl ?_
        refine R_getR fX1_mayBe_39 dX1_mayBe_29 ?_
        refine R_iload dX1_mayBe_32 rfl ?_
        refine R_iald (q := 6) rfl rfl (by omega) rfl dX1_mayBe_34 ?_
        refine R_iadd dX1_mayBe_35 ?_
        refine R_istore dX1_mayBe_36 rfl rfl ?_
        refine R_iload dX1_mayBe_38 rfl ?_
        refine R_if_eq (tgt := 59) (by omega) dX1_mayBe_40 (by decide) (fun c40 => ?_) (fun c40 => ?_)
        · refine R_iconst dX1_mayBe_59 ?_
          refine R_istore dX1_mayBe_60 rfl rfl ?_
          refine R_iinc dX1_mayBe_62 rfl rfl rfl ?_
          refine R_goto (tgt := 9) dX1_mayBe_65 (by decide) ?_
          rw [sm_lt (show w < 12 by omega)] at hs hy
          have hcase : x / p2 w % 2 = 1 ∨ ¬ x / p2 w % 2 = 1 := by omega
          first
          | (rw [if_neg (show ¬ x / p2 w % 2 = 1 by omega)] at hs
             rw [if_neg (show ¬ (x / p2 w % 2 = 1 ∧ ¬ τ 11 w < t) by omega)] at hy
             exact ih _ (by omega) (w + 1) _ _ rfl (by omega) (by omega) (by omega) (by omega))
          | (rw [if_pos (show x / p2 w % 2 = 1 by omega)] at hs
             first
             | (rw [if_neg (show ¬ (x / p2 w % 2 = 1 ∧ ¬ τ 11 w < t) by omega)] at hy
                exact ih _ (by omega) (w + 1) _ _ rfl (by omega) (by omega) (by omega) (by omega))
             | (rw [if_pos (show x / p2 w % 2 = 1 ∧ ¬ τ 11 w < t by omega)] at hy
                exact ih _ (by omega) (w + 1) _ _ rfl (by omega) (by omega) (by omega) (by omega))
             | exact ih _ (by omega) (w + 1) _ _ rfl (by omega) (by omega) (by omega) (by omega))
        · refine R_aload_n dX1_mayBe_43 rfl ?_
          refine R_getR fX1_mayBe_54 dX1_mayBe_44 ?_
          refine R_iload dX1_mayBe_47 rfl ?_
          refine R_iald (q := 11) rfl rfl (by omega) rfl dX1_mayBe_49 ?_
          refine R_iload dX1_mayBe_50 rfl ?_
          refine R_icmp_ge (tgt := 59) (by omega) dX1_mayBe_52 (by decide) (fun c52 => ?_) (fun c52 => ?_)
          · refine R_iconst dX1_mayBe_59 ?_
            refine R_istore dX1_mayBe_60 rfl rfl ?_
            refine R_iinc dX1_mayBe_62 rfl rfl rfl ?_
            refine R_goto (tgt := 9) dX1_mayBe_65 (by decide) ?_
            rw [sm_lt (show w < 12 by omega)] at hs hy
            have hcase : x / p2 w % 2 = 1 ∨ ¬ x / p2 w % 2 = 1 := by omega
            first
            | (rw [if_neg (show ¬ x / p2 w % 2 = 1 by omega)] at hs
               rw [if_neg (show ¬ (x / p2 w % 2 = 1 ∧ ¬ τ 11 w < t) by omega)] at hy
               exact ih _ (by omega) (w + 1) _ _ rfl (by omega) (by omega) (by omega) (by omega))
            | (rw [if_pos (show x / p2 w % 2 = 1 by omega)] at hs
               first
               | (rw [if_neg (show ¬ (x / p2 w % 2 = 1 ∧ ¬ τ 11 w < t) by omega)] at hy
                  exact ih _ (by omega) (w + 1) _ _ rfl (by omega) (by omega) (by omega) (by omega))
               | (rw [if_pos (show x / p2 w % 2 = 1 ∧ ¬ τ 11 w < t by omega)] at hy
                  exact ih _ (by omega) (w + 1) _ _ rfl (by omega) (by omega) (by omega) (by omega))
               | exact ih _ (by omega) (w + 1) _ _ rfl (by omega) (by omega) (by omega) (by omega))
          · refine R_iconst dX1_mayBe_55 ?_
            refine R_goto (tgt := 60) dX1_mayBe_56 (by decide) ?_
            refine R_istore dX1_mayBe_60 rfl rfl ?_
            refine R_iinc dX1_mayBe_62 rfl rfl rfl ?_
            refine R_goto (tgt := 9) dX1_mayBe_65 (by decide) ?_
            rw [sm_lt (show w < 12 by omega)] at hs hy
            have hcase : x / p2 w % 2 = 1 ∨ ¬ x / p2 w % 2 = 1 := by omega
            first
            | (rw [if_neg (show ¬ x / p2 w % 2 = 1 by omega)] at hs
               rw [if_neg (show ¬ (x / p2 w % 2 = 1 ∧ ¬ τ 11 w < t) by omega)] at hy
               exact ih _ (by omega) (w + 1) _ _ rfl (by omega) (by omega) (by omega) (by omega))
            | (rw [if_pos (show x / p2 w % 2 = 1 by omega)] at hs
               first
               | (rw [if_neg (show ¬ (x / p2 w % 2 = 1 ∧ ¬ τ 11 w < t) by omega)] at hy
                  exact ih _ (by omega) (w + 1) _ _ rfl (by omega) (by omega) (by omega) (by omega))
               | (rw [if_pos (show x / p2 w % 2 = 1 ∧ ¬ τ 11 w < t by omega)] at hy
                  exact ih _ (by omega) (w + 1) _ _ rfl (by omega) (by omega) (by omega) (by omega))
               | exact ih _ (by omega) (w + 1) _ _ rfl (by omega) (by omega) (by omega) (by omega))
  refine R_iconst dX1_mayBe_0 ?_
  refine R_istore dX1_mayBe_1 rfl rfl ?_
  refine R_iconst dX1_mayBe_3 ?_
  refine R_istore dX1_mayBe_4 rfl rfl ?_
  refine R_iconst dX1_mayBe_6 ?_
  refine R_istore dX1_mayBe_7 rfl rfl ?_
  exact loop _ 0 0 1 rfl (by omega) (by omega) (by unfold mnt; omega) (Or.inl ⟨rfl, rfl⟩)

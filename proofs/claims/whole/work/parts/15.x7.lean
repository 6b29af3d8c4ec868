/-! totals and prizes -/
def tl (we g : Int → Int) : Nat → Int → Int → Int
  | 0, _, s => s
  | n + 1, r, s => if 0 < we r then (if g r = -1 then -1 else tl we g n (r + 1) (s + we r * g r)) else tl we g n (r + 1) s
theorem tl_S (we g : Int → Int) (n : Nat) (r s : Int) : tl we g (n + 1) r s = if 0 < we r then (if g r = -1 then -1 else tl we g n (r + 1) (s + we r * g r)) else tl we g n (r + 1) s := rfl
def tot (we g : Int → Int) : Int := tl we g 3 0 0
theorem tl_bd {we g : Int → Int} (hw : ∀ r, 0 ≤ we r ∧ we r ≤ 10) (hg : ∀ r, g r = -1 ∨ (0 ≤ g r ∧ g r ≤ 17640000)) : ∀ (n : Nat) (r s : Int), 0 ≤ s → tl we g n r s = -1 ∨ (0 ≤ tl we g n r s ∧ tl we g n r s ≤ s + 176400000 * n) := by
  intro n
  induction n with
  | zero => intro r s hs; exact Or.inr ⟨hs, by show s ≤ _; omega⟩
  | succ n ih =>
    intro r s hs
    have h1 := hw r
    have h2 := hg r
    rw [tl_S]
    split
    · split
      · exact Or.inl rfl
      · have h3 := mul_bd (a := we r) (b := g r) (A := 10) (B := 17640000) h1 (by omega)
        have := ih (r + 1) (s + we r * g r) (by omega)
        omega
    · have := ih (r + 1) s hs
      omega
def toX (τ : Sf) (p : Int) : Int := tot (τ 5) (fun r => scX τ r 0 p)
theorem toX_bd {τ : Sf} (hI : InvX τ) (p : Int) : -1 ≤ toX τ p ∧ toX τ p ≤ 529200000 := by
  obtain ⟨hn, hm, hmk, hys, hpu, hcu, hpl, hwe, hpr, hmi, hwo, hco, hch⟩ := id hI
  have := tl_bd (we := τ 5) (g := fun r => scX τ r 0 p) hwe (fun r => by have := scX_bd (r := r) (w := 0) (p := p) hI (by omega); show scX τ r 0 p = -1 ∨ (0 ≤ scX τ r 0 p ∧ scX τ r 0 p ≤ 17640000); omega) 3 0 0 (by omega)
  have e : toX τ p = tl (τ 5) (fun r => scX τ r 0 p) 3 0 0 := rfl
  rw [← e] at this
  omega
def shc (T : Int → Int) (n p : Int) : Int := sm (fun q => if T q = T p then 1 else 0) 0 n
def pz (pr : Int → Int) (i : Int) : Int := if i < 6 then pr i else 0
def shr (T pr : Int → Int) (n p : Int) : Int := if T p = -1 then 0 else sm (pz pr) (plc T n p - 1) (plc T n p - 1 + shc T n p) / shc T n p
theorem shc_bd {T : Int → Int} {n p : Int} (hp : 0 ≤ p ∧ p < n) : 1 ≤ shc T n p ∧ shc T n p ≤ n := by
  have h1 := sm_one (f := fun q => if T q = T p then 1 else 0) (b := n) (j := p) 0 (fun i _ _ => by show 0 ≤ ite _ _ _; split <;> omega) hp.1 hp.2
  have h2 := sm_bd (f := fun q => if T q = T p then 1 else 0) (lo := 0) (hi := 1) (b := n) 0 (fun i _ _ => by show 0 ≤ ite _ _ _ ∧ ite _ _ _ ≤ 1; split <;> omega) (by omega)
  have h3 : (if T p = T p then (1 : Int) else 0) = 1 := if_pos rfl
  rw [h3] at h1
  unfold shc
  omega
theorem shc_congr {f g : Int → Int} {n p : Int} (h : ∀ q, 0 ≤ q → q < n → f q = g q) (hp : 0 ≤ p ∧ p < n) : shc f n p = shc g n p := by
  unfold shc
  rw [h p hp.1 hp.2, sm_congr 0 (fun q h1 h2 => by rw [h q h1 h2])]
theorem shr_congr {f g pr : Int → Int} {n p : Int} (h : ∀ q, 0 ≤ q → q < n → f q = g q) (hp : 0 ≤ p ∧ p < n) : shr f pr n p = shr g pr n p := by
  unfold shr
  rw [h p hp.1 hp.2, plc_congr h hp, shc_congr h hp]
theorem pz_bd {pr : Int → Int} (hpr : ∀ i, 0 ≤ pr i ∧ pr i ≤ 1000000) (i : Int) : 0 ≤ pz pr i ∧ pz pr i ≤ 1000000 := by
  have := hpr i
  unfold pz
  split <;> omega

set_option maxHeartbeats 4000000 in
set_option maxRecDepth 100000 in
theorem c_X0_totalOf {E : Ev} {d : Nat} {τ ζ : Sf} {Q : Option Value → Sf → Sf → Prop} {p : Int} (hI : InvX τ) (hp : 0 ≤ p ∧ p < τ 20 0) (hQ : ∀ (z : Int) (ζ' : Sf), z = toX τ p → (∀ k : Nat, k ≠ 11 → ζ' k = ζ k) → Q (some (.int (zI z))) τ ζ') : C E GX kX0_totalOf (d + 6) [.ref (eAd E 0), .int (zI p)] τ ζ Q := by
  refine C_of (by decide) rfl rfl ?_
  show R E GX kX0_totalOf (d + 6) 0 [some (.ref (eAd E 0)), some (.int (zI p)), none, none, none] [] τ ζ Q
  obtain ⟨hn, hm, hmk, hys, hpu, hcu, hpl, hwe, hpr, hmi, hwo, hco, hch⟩ := id hI
  have loop : ∀ (N : Nat) (r s : Int) (o : Option Value) (ζ' : Sf), N ≤ 3 → (N : Int) = 3 - r → tl (τ 5) (fun r => scX τ r 0 p) N r s = toX τ p → (∀ k : Nat, k ≠ 11 → ζ' k = ζ k) → R E GX kX0_totalOf (d + 6) 4 [some (.ref (eAd E 0)), some (.int (zI p)), some (.int (zI s)), some (.int (zI r)), o] [] τ ζ' Q := by
    intro N
    induction N with
    | zero =>
      intro r s o ζ' hN3 hN ht hK
      refine R_iload_n dX0_totalOf_4 rfl ?_
      refine R_iconst dX0_totalOf_5 ?_
      refine R_icmp_ge (tgt := 53) (by omega) dX0_totalOf_6 (by decide) (fun c6 => ?_) (fun c6 => absurd c6 (by omega))
      refine R_iload_n dX0_totalOf_53 rfl ?_
      refine R_iret rfl dX0_totalOf_54 ?_
      exact hQ _ ζ' ht hK
    | succ N ih =>
      intro r s o ζ' hN3 hN ht hK
      have hwr := hwe r
      have hsc := scX_bd (r := r) (w := 0) (p := p) hI (by omega)
      rw [tl_S] at ht
      refine R_iload_n dX0_totalOf_4 rfl ?_
      refine R_iconst dX0_totalOf_5 ?_
      refine R_icmp_ge (tgt := 53) (by omega) dX0_totalOf_6 (by decide) (fun c6 => absurd c6 (by omega)) (fun c6 => ?_)
      refine R_aload_n dX0_totalOf_9 rfl ?_
      refine R_getR fX0_totalOf_29 dX0_totalOf_10 ?_
      refine R_iload_n dX0_totalOf_13 rfl ?_
      refine R_iald (q := 5) rfl rfl (by omega) rfl dX0_totalOf_14 ?_
      refine R_if_le (tgt := 47) (by omega) dX0_totalOf_15 (by decide) (fun c15 => ?_) (fun c15 => ?_)
      · refine R_iinc dX0_totalOf_47 rfl rfl rfl ?_
        refine R_goto (tgt := 4) dX0_totalOf_50 (by decide) ?_
        first
        | (rw [if_neg (show ¬ 0 < τ 5 r by omega)] at ht
           exact ih (r + 1) _ _ _ (by omega) (by omega) ht hK)
        | (rw [if_pos (show 0 < τ 5 r by omega), if_neg (by omega)] at ht
           exact ih (r + 1) _ _ _ (by omega) (by omega) ht (fun k hk => (hK22 k hk).trans (hK k hk)))
      · refine R_aload_n dX0_totalOf_18 rfl ?_
        refine R_iload_n dX0_totalOf_19 rfl ?_
        refine R_iconst dX0_totalOf_20 ?_
        refine R_iload_n dX0_totalOf_21 rfl ?_
        refine R_callV3 (k2 := kX0_scoreOf) dX0_totalOf_22 rfl gX0_totalOf_X0_scoreOf kkX0_scoreOf rfl rfl (Nat.le_of_ble_eq_true rfl) (c_X0_scoreOf hI (by omega) (by omega) (by omega) (fun s22 ζ22 h22 hK22 => ?_))
        show R _ _ _ _ 25 _ [_] _ _ _
        subst h22
        refine R_istore dX0_totalOf_25 rfl rfl ?_
        refine R_iload dX0_totalOf_27 rfl ?_
        refine R_iconst dX0_totalOf_29 ?_
        refine R_icmp_ne (tgt := 35) (by omega) dX0_totalOf_30 (by decide) (fun c30 => ?_) (fun c30 => ?_)
        · refine R_iload_n dX0_totalOf_35 rfl ?_
          refine R_aload_n dX0_totalOf_36 rfl ?_
          refine R_getR fX0_totalOf_29 dX0_totalOf_37 ?_
          refine R_iload_n dX0_totalOf_40 rfl ?_
          refine R_iald (q := 5) rfl rfl (by omega) rfl dX0_totalOf_41 ?_
          refine R_iload dX0_totalOf_42 rfl ?_
          refine R_imul dX0_totalOf_44 ?_
          refine R_iadd dX0_totalOf_45 ?_
          refine R_istore_n dX0_totalOf_46 rfl rfl ?_
          refine R_iinc dX0_totalOf_47 rfl rfl rfl ?_
          refine R_goto (tgt := 4) dX0_totalOf_50 (by decide) ?_
          first
          | (rw [if_neg (show ¬ 0 < τ 5 r by omega)] at ht
             exact ih (r + 1) _ _ _ (by omega) (by omega) ht hK)
          | (rw [if_pos (show 0 < τ 5 r by omega), if_neg (by omega)] at ht
             exact ih (r + 1) _ _ _ (by omega) (by omega) ht (fun k hk => (hK22 k hk).trans (hK k hk)))
        · refine R_iconst dX0_totalOf_33 ?_
          refine R_iret rfl dX0_totalOf_34 ?_
          rw [if_pos (show 0 < τ 5 r by omega), if_pos (by omega)] at ht
          exact hQ _ _ ht (fun k hk => (hK22 k hk).trans (hK k hk))
  refine R_iconst dX0_totalOf_0 ?_
  refine R_istore_n dX0_totalOf_1 rfl rfl ?_
  refine R_iconst dX0_totalOf_2 ?_
  refine R_istore_n dX0_totalOf_3 rfl rfl ?_
  exact loop 3 0 0 none ζ (by omega) (by omega) rfl (fun k _ => rfl)

def ftotal (τ : Sf) (p : Int) : Int := if p < 0 ∨ τ 20 0 ≤ p then -101 else toX τ p
set_option maxHeartbeats 4000000 in
set_option maxRecDepth 100000 in
theorem c_X0_total {E : Ev} {d : Nat} {τ ζ : Sf} {Q : Option Value → Sf → Sf → Prop} {p : Int} (hI : InvX τ) (hrg : (-2147483648 ≤ p ∧ p < 2147483648)) (hQ : ∀ (z : Int) (ζ' : Sf), z = ftotal τ p → Q (some (.int (zI z))) τ ζ') : C E GX kX0_total (d + 7) [.ref (eAd E 0), .int (zI p)] τ ζ Q := by
  refine C_of (by decide) rfl rfl ?_
  show R E GX kX0_total (d + 7) 0 [some (.ref (eAd E 0)), some (.int (zI p))] [] τ ζ Q
  obtain ⟨hn, hm, hmk, hys, hpu, hcu, hpl, hwe, hpr, hmi, hwo, hco, hch⟩ := id hI
  refine R_aload_n dX0_total_0 rfl ?_
  refine R_iload_n dX0_total_1 rfl ?_
  refine R_callV1 (k2 := kX0_isPlayer) dX0_total_2 rfl gX0_total_X0_isPlayer kkX0_isPlayer rfl rfl (Nat.le_of_ble_eq_true rfl) (c_X0_isPlayer hI (by omega) (fun b2 => ?_) (fun b2 => ?_))
  · show R _ _ _ _ 5 _ [_] _ _ _
    refine R_if_ne (tgt := 11) (by decide) dX0_total_5 (by decide) (fun _ => ?_) (fun h => absurd h (by decide))
    refine R_aload_n dX0_total_11 rfl ?_
    refine R_iload_n dX0_total_12 rfl ?_
    refine R_callV1 (k2 := kX0_totalOf) dX0_total_13 rfl gX0_total_X0_totalOf kkX0_totalOf rfl rfl (Nat.le_of_ble_eq_true rfl) (c_X0_totalOf hI (by omega) (fun r13 ζ13 h13 hK13 => ?_))
    subst h13
    show R _ _ _ _ 16 _ [_] _ _ _
    refine R_iret rfl dX0_total_16 ?_
    exact hQ _ _ (by unfold ftotal; first | rw [if_pos (by omega)] | rw [if_neg (by omega), if_pos (by omega)] | rw [if_neg (by omega), if_neg (by omega), if_pos (by omega)] | rw [if_neg (by omega), if_neg (by omega), if_neg (by omega)] | rw [if_neg (by omega), if_neg (by omega)] | rw [if_neg (by omega)])
  · show R _ _ _ _ 5 _ [_] _ _ _
    refine R_if_ne (tgt := 11) (by decide) dX0_total_5 (by decide) (fun h => absurd h (by decide)) (fun _ => ?_)
    refine R_bipush dX0_total_8 (by decide) ?_
    refine R_iret rfl dX0_total_10 ?_
    exact hQ _ _ (by unfold ftotal; first | rw [if_pos (by omega)] | rw [if_neg (by omega), if_pos (by omega)] | rw [if_neg (by omega), if_neg (by omega), if_pos (by omega)] | rw [if_neg (by omega), if_neg (by omega), if_neg (by omega)] | rw [if_neg (by omega), if_neg (by omega)] | rw [if_neg (by omega)])

set_option maxHeartbeats 4000000 in
set_option maxRecDepth 100000 in
theorem c_X0_fillTotals {E : Ev} {d : Nat} {τ ζ : Sf} {Q : Option Value → Sf → Sf → Prop} (hI : InvX τ) (hQ : ∀ ζ' : Sf, (∀ q : Int, 0 ≤ q → q < τ 20 0 → ζ' 13 q = toX τ q) → Q none τ ζ') : C E GX kX0_fillTotals (d + 7) [.ref (eAd E 0)] τ ζ Q := by
  refine C_of (by decide) rfl rfl ?_
  show R E GX kX0_fillTotals (d + 7) 0 [some (.ref (eAd E 0)), none] [] τ ζ Q
  obtain ⟨hn, hm, hmk, hys, hpu, hcu, hpl, hwe, hpr, hmi, hwo, hco, hch⟩ := id hI
  have loop : ∀ (N : Nat) (p : Int) (ζ' : Sf), (τ 20 0 - p).toNat = N → 0 ≤ p → p ≤ τ 20 0 → (∀ q : Int, 0 ≤ q → q < p → ζ' 13 q = toX τ q) → R E GX kX0_fillTotals (d + 7) 2 [some (.ref (eAd E 0)), some (.int (zI p))] [] τ ζ' Q := by
    refine st_ind (fun N ih => ?_)
    intro p ζ' hN hj hj2 hz
    refine R_iload_n dX0_fillTotals_2 rfl ?_
    refine R_aload_n dX0_fillTotals_3 rfl ?_
    refine R_getI 20 fX0_fillTotals_7 rfl rfl dX0_fillTotals_4 ?_
    refine R_icmp_ge (tgt := 27) (by omega) dX0_fillTotals_7 (by decide) (fun c7 => ?_) (fun c7 => ?_)
    · refine R_vret rfl dX0_fillTotals_27 ?_
      exact hQ _ (fun q h1 h2 => hz q h1 (by omega))
    · refine R_aload_n dX0_fillTotals_10 rfl ?_
      refine R_getR fX0_fillTotals_53 dX0_fillTotals_11 ?_
      refine R_iload_n dX0_fillTotals_14 rfl ?_
      refine R_aload_n dX0_fillTotals_15 rfl ?_
      refine R_iload_n dX0_fillTotals_16 rfl ?_
      refine R_callV1 (k2 := kX0_totalOf) dX0_fillTotals_17 rfl gX0_fillTotals_X0_totalOf kkX0_totalOf rfl rfl (Nat.le_of_ble_eq_true rfl) (c_X0_totalOf hI (by omega) (fun s17 ζ17 h17 hK17 => ?_))
      show R _ _ _ _ 20 _ [_, _, _] _ _ _
      refine R_iasts (q := 13) GXok rfl rfl (by omega) rfl dX0_fillTotals_20 ?_
      refine R_iinc dX0_fillTotals_21 rfl rfl rfl ?_
      refine R_goto (tgt := 2) dX0_fillTotals_24 (by decide) ?_
      refine ih (τ 20 0 - (p + 1)).toNat (by omega) (p + 1) _ rfl (by omega) (by omega) (fun q g1 g2 => ?_)
      rw [up_at]
      by_cases hq : q = p
      · rw [if_pos hq, hq, h17]
      · rw [if_neg hq, hK17 13 (by decide)]
        exact hz q g1 (by omega)
  refine R_iconst dX0_fillTotals_0 ?_
  refine R_istore_n dX0_fillTotals_1 rfl rfl ?_
  exact loop _ 0 ζ rfl (by omega) (by omega) (fun q h1 h2 => by omega)

def flast (τ : Sf) (p : Int) : Int := if p < 0 ∨ τ 20 0 ≤ p then -101 else plc (toX τ) (τ 20 0) p
set_option maxHeartbeats 4000000 in
set_option maxRecDepth 100000 in
theorem c_X0_last {E : Ev} {d : Nat} {τ ζ : Sf} {Q : Option Value → Sf → Sf → Prop} {p : Int} (hI : InvX τ) (hrg : (-2147483648 ≤ p ∧ p < 2147483648)) (hQ : ∀ (z : Int) (ζ' : Sf), z = flast τ p → Q (some (.int (zI z))) τ ζ') : C E GX kX0_last (d + 8) [.ref (eAd E 0), .int (zI p)] τ ζ Q := by
  refine C_of (by decide) rfl rfl ?_
  show R E GX kX0_last (d + 8) 0 [some (.ref (eAd E 0)), some (.int (zI p))] [] τ ζ Q
  obtain ⟨hn, hm, hmk, hys, hpu, hcu, hpl, hwe, hpr, hmi, hwo, hco, hch⟩ := id hI
  refine R_aload_n dX0_last_0 rfl ?_
  refine R_iload_n dX0_last_1 rfl ?_
  refine R_callV1 (k2 := kX0_isPlayer) dX0_last_2 rfl gX0_last_X0_isPlayer kkX0_isPlayer rfl rfl (Nat.le_of_ble_eq_true rfl) (c_X0_isPlayer hI (by omega) (fun b2 => ?_) (fun b2 => ?_))
  · show R _ _ _ _ 5 _ [_] _ _ _
    refine R_if_ne (tgt := 11) (by decide) dX0_last_5 (by decide) (fun _ => ?_) (fun h => absurd h (by decide))
    refine R_aload_n dX0_last_11 rfl ?_
    refine R_callV0 (k2 := kX0_fillTotals) dX0_last_12 rfl gX0_last_X0_fillTotals kkX0_fillTotals rfl rfl (Nat.le_of_ble_eq_true rfl) (c_X0_fillTotals hI (fun ζ12 hz12 => ?_))
    show R _ _ _ _ 15 _ [] _ _ _
    refine R_aload_n dX0_last_15 rfl ?_
    refine R_aload_n dX0_last_16 rfl ?_
    refine R_getR fX0_last_53 dX0_last_17 ?_
    refine R_iload_n dX0_last_20 rfl ?_
    refine R_callV2 (k2 := kX0_placeIn) dX0_last_21 rfl gX0_last_X0_placeIn kkX0_placeIn rfl rfl (Nat.le_of_ble_eq_true rfl) (c_X0_placeIn rfl rfl hI (by omega) (fun x g1 g2 => by rw [hz12 x g1 g2]; have := toX_bd hI x; omega) (fun r21 h21 => ?_))
    subst h21
    show R _ _ _ _ 24 _ [_] _ _ _
    refine R_iret rfl dX0_last_24 ?_
    rw [plc_congr hz12 (by omega)]
    exact hQ _ _ (by unfold flast; first | rw [if_pos (by omega)] | rw [if_neg (by omega), if_pos (by omega)] | rw [if_neg (by omega), if_neg (by omega), if_pos (by omega)] | rw [if_neg (by omega), if_neg (by omega), if_neg (by omega)] | rw [if_neg (by omega), if_neg (by omega)] | rw [if_neg (by omega)])
  · show R _ _ _ _ 5 _ [_] _ _ _
    refine R_if_ne (tgt := 11) (by decide) dX0_last_5 (by decide) (fun h => absurd h (by decide)) (fun _ => ?_)
    refine R_bipush dX0_last_8 (by decide) ?_
    refine R_iret rfl dX0_last_10 ?_
    exact hQ _ _ (by unfold flast; first | rw [if_pos (by omega)] | rw [if_neg (by omega), if_pos (by omega)] | rw [if_neg (by omega), if_neg (by omega), if_pos (by omega)] | rw [if_neg (by omega), if_neg (by omega), if_neg (by omega)] | rw [if_neg (by omega), if_neg (by omega)] | rw [if_neg (by omega)])

set_option maxHeartbeats 4000000 in
set_option maxRecDepth 100000 in
theorem c_X0_shareOf {E : Ev} {d : Nat} {τ ζ : Sf} {Q : Option Value → Sf → Sf → Prop} {p : Int} (hI : InvX τ) (hp : 0 ≤ p ∧ p < τ 20 0) (hz : ∀ x : Int, 0 ≤ x → x < τ 20 0 → -1 ≤ ζ 13 x ∧ ζ 13 x ≤ 600000000) (hQ : ∀ z : Int, z = shr (ζ 13) (τ 6) (τ 20 0) p → Q (some (.int (zI z))) τ ζ) : C E GX kX0_shareOf (d + 1) [.ref (eAd E 0), .int (zI p)] τ ζ Q := by
  refine C_of (by decide) rfl rfl ?_
  show R E GX kX0_shareOf (d + 1) 0 [some (.ref (eAd E 0)), some (.int (zI p)), none, none, none, none] [] τ ζ Q
  obtain ⟨hn, hm, hmk, hys, hpu, hcu, hpl, hwe, hpr, hmi, hwo, hco, hch⟩ := id hI
  have hzp := hz p (by omega) (by omega)
  have hpb := plc_bd (f := ζ 13) (n := τ 20 0) (p := p) (by omega)
  have hsb := shc_bd (T := ζ 13) hp
  have hpzb := sm_bd (f := pz (τ 6)) (lo := 0) (hi := 1000000) (b := plc (ζ 13) (τ 20 0) p - 1 + shc (ζ 13) (τ 20 0) p) (plc (ζ 13) (τ 20 0) p - 1) (fun i _ _ => pz_bd hpr i) (by omega)
  refine R_aload_n dX0_shareOf_0 rfl ?_
  refine R_getR fX0_shareOf_53 dX0_shareOf_1 ?_
  refine R_iload_n dX0_shareOf_4 rfl ?_
  refine R_ialds (q := 13) rfl rfl (by omega) rfl dX0_shareOf_5 ?_
  refine R_iconst dX0_shareOf_6 ?_
  refine R_icmp_ne (tgt := 12) (by omega) dX0_shareOf_7 (by decide) (fun c7 => ?_) (fun c7 => ?_)
  · have loop : ∀ (N : Nat) (x s : Int), (τ 20 0 - x).toNat = N → 0 ≤ x → x ≤ τ 20 0 → s + sm (fun q => if ζ 13 q = ζ 13 p then 1 else 0) x (τ 20 0) = shc (ζ 13) (τ 20 0) p → R E GX kX0_shareOf (d + 1) 16 [some (.ref (eAd E 0)), some (.int (zI p)), some (.int (zI s)), some (.int (zI x)), none, none] [] τ ζ Q := by
      refine st_ind (fun N ih => ?_)
      intro x s hN hx hx2 hs
      refine R_iload_n dX0_shareOf_16 rfl ?_
      refine R_aload_n dX0_shareOf_17 rfl ?_
      refine R_getI 20 fX0_shareOf_7 rfl rfl dX0_shareOf_18 ?_
      refine R_icmp_ge (tgt := 48) (by omega) dX0_shareOf_21 (by decide) (fun c21 => ?_) (fun c21 => ?_)
      · rw [sm_ge (by omega)] at hs
        have hs2 : s = shc (ζ 13) (τ 20 0) p := by omega
        subst hs2
        refine R_iload_n dX0_shareOf_48 rfl ?_
        refine R_iconst dX0_shareOf_49 ?_
        refine R_icmp_ge (tgt := 55) (by omega) dX0_shareOf_50 (by decide) (fun c50 => ?_) (fun c50 => absurd c50 (by omega))
        refine R_aload_n dX0_shareOf_55 rfl ?_
        refine R_aload_n dX0_shareOf_56 rfl ?_
        refine R_getR fX0_shareOf_53 dX0_shareOf_57 ?_
        refine R_iload_n dX0_shareOf_60 rfl ?_
        refine R_callV2 (k2 := kX0_placeIn) dX0_shareOf_61 rfl gX0_shareOf_X0_placeIn kkX0_placeIn rfl rfl (Nat.le_of_ble_eq_true rfl) (c_X0_placeIn rfl rfl hI (by omega) hz (fun r61 h61 => ?_))
        subst h61
        show R _ _ _ _ 64 _ [_] _ _ _
        refine R_iconst dX0_shareOf_64 ?_
        refine R_isub dX0_shareOf_65 ?_
        refine R_istore_n dX0_shareOf_66 rfl rfl ?_
        have loop2 : ∀ (N : Nat) (i s : Int), (plc (ζ 13) (τ 20 0) p - 1 + shc (ζ 13) (τ 20 0) p - i).toNat = N → 0 ≤ i → i ≤ 100 → 0 ≤ s → s + sm (pz (τ 6)) i (plc (ζ 13) (τ 20 0) p - 1 + shc (ζ 13) (τ 20 0) p) = sm (pz (τ 6)) (plc (ζ 13) (τ 20 0) p - 1) (plc (ζ 13) (τ 20 0) p - 1 + shc (ζ 13) (τ 20 0) p) → R E GX kX0_shareOf (d + 1) 73 [some (.ref (eAd E 0)), some (.int (zI p)), some (.int (zI ((shc (ζ 13) (τ 20 0) p)))), some (.int (zI ((plc (ζ 13) (τ 20 0) p - 1)))), some (.int (zI s)), some (.int (zI i))] [] τ ζ Q := by
          refine st_ind (fun N ih => ?_)
          intro i s hN hi hi2 hs0 hs
          refine R_iload dX0_shareOf_73 rfl ?_
          refine R_iload_n dX0_shareOf_75 rfl ?_
          refine R_iload_n dX0_shareOf_76 rfl ?_
          refine R_iadd dX0_shareOf_77 ?_
          refine R_icmp_ge (tgt := 106) (by omega) dX0_shareOf_78 (by decide) (fun c78 => ?_) (fun c78 => ?_)
          · have hs : s = sm (pz (τ 6)) (plc (ζ 13) (τ 20 0) p - 1) (plc (ζ 13) (τ 20 0) p - 1 + shc (ζ 13) (τ 20 0) p) := by
              first
              | (rw [sm_ge (by omega)] at hs
                 omega)
              | (rw [sm_zero (f := pz (τ 6)) i (fun x h1 h2 => by unfold pz; rw [if_neg (by omega)])] at hs
                 omega)
            refine R_iload dX0_shareOf_106 rfl ?_
            refine R_iload_n dX0_shareOf_108 rfl ?_
            refine R_idiv (by omega) dX0_shareOf_109 ?_
            refine R_iret rfl dX0_shareOf_110 ?_
            rw [hs]
            exact hQ _ (by unfold shr; rw [if_neg (by omega)])
          · refine R_iload dX0_shareOf_81 rfl ?_
            refine R_bipush dX0_shareOf_83 (by decide) ?_
            refine R_icmp_ge (tgt := 106) (by omega) dX0_shareOf_85 (by decide) (fun c85 => ?_) (fun c85 => ?_)
            · have hs : s = sm (pz (τ 6)) (plc (ζ 13) (τ 20 0) p - 1) (plc (ζ 13) (τ 20 0) p - 1 + shc (ζ 13) (τ 20 0) p) := by
                first
                | (rw [sm_ge (by omega)] at hs
                   omega)
                | (rw [sm_zero (f := pz (τ 6)) i (fun x h1 h2 => by unfold pz; rw [if_neg (by omega)])] at hs
                   omega)
              refine R_iload dX0_shareOf_106 rfl ?_
              refine R_iload_n dX0_shareOf_108 rfl ?_
              refine R_idiv (by omega) dX0_shareOf_109 ?_
              refine R_iret rfl dX0_shareOf_110 ?_
              rw [hs]
              exact hQ _ (by unfold shr; rw [if_neg (by omega)])
            · refine R_iload dX0_shareOf_88 rfl ?_
              refine R_aload_n dX0_shareOf_90 rfl ?_
              refine R_getR fX0_shareOf_32 dX0_shareOf_91 ?_
              refine R_iload dX0_shareOf_94 rfl ?_
              refine R_iald (q := 6) rfl rfl (by omega) rfl dX0_shareOf_96 ?_
              refine R_iadd dX0_shareOf_97 ?_
              refine R_istore dX0_shareOf_98 rfl rfl ?_
              refine R_iinc dX0_shareOf_100 rfl rfl rfl ?_
              refine R_goto (tgt := 73) dX0_shareOf_103 (by decide) ?_
              have hpi := hpr i
              have e : pz (τ 6) i = τ 6 i := if_pos (by omega)
              rw [sm_lt (by omega), e] at hs
              exact ih _ (by omega) (i + 1) _ rfl (by omega) (by omega) (by omega) (by omega)
        refine R_iconst dX0_shareOf_67 ?_
        refine R_istore dX0_shareOf_68 rfl rfl ?_
        refine R_iload_n dX0_shareOf_70 rfl ?_
        refine R_istore dX0_shareOf_71 rfl rfl ?_
        exact loop2 _ _ 0 rfl (by omega) (by omega) (by omega) (by omega)
      · have hzx := hz x (by omega) (by omega)
        refine R_aload_n dX0_shareOf_24 rfl ?_
        refine R_getR fX0_shareOf_53 dX0_shareOf_25 ?_
        refine R_iload_n dX0_shareOf_28 rfl ?_
        refine R_ialds (q := 13) rfl rfl (by omega) rfl dX0_shareOf_29 ?_
        refine R_aload_n dX0_shareOf_30 rfl ?_
        refine R_getR fX0_shareOf_53 dX0_shareOf_31 ?_
        refine R_iload_n dX0_shareOf_34 rfl ?_
        refine R_ialds (q := 13) rfl rfl (by omega) rfl dX0_shareOf_35 ?_
        refine R_icmp_ne (tgt := 42) (by omega) dX0_shareOf_36 (by decide) (fun c36 => ?_) (fun c36 => ?_)
        · refine R_iinc dX0_shareOf_42 rfl rfl rfl ?_
          refine R_goto (tgt := 16) dX0_shareOf_45 (by decide) ?_
          rw [sm_lt (by omega)] at hs
          refine ih (τ 20 0 - (x + 1)).toNat (by omega) (x + 1) _ rfl (by omega) (by omega) ?_
          first
          | (rw [if_neg (show ¬ ζ 13 x = ζ 13 p by omega)] at hs
             omega)
          | (rw [if_pos (show ζ 13 x = ζ 13 p by omega)] at hs
             omega)
        · refine R_iinc dX0_shareOf_39 rfl rfl rfl ?_
          refine R_iinc dX0_shareOf_42 rfl rfl rfl ?_
          refine R_goto (tgt := 16) dX0_shareOf_45 (by decide) ?_
          rw [sm_lt (by omega)] at hs
          refine ih (τ 20 0 - (x + 1)).toNat (by omega) (x + 1) _ rfl (by omega) (by omega) ?_
          first
          | (rw [if_neg (show ¬ ζ 13 x = ζ 13 p by omega)] at hs
             omega)
          | (rw [if_pos (show ζ 13 x = ζ 13 p by omega)] at hs
             omega)
    refine R_iconst dX0_shareOf_12 ?_
    refine R_istore_n dX0_shareOf_13 rfl rfl ?_
    refine R_iconst dX0_shareOf_14 ?_
    refine R_istore_n dX0_shareOf_15 rfl rfl ?_
    exact loop _ 0 0 rfl (by omega) (by omega) (by unfold shc; omega)
  · refine R_iconst dX0_shareOf_10 ?_
    refine R_iret rfl dX0_shareOf_11 ?_
    exact hQ _ (by unfold shr; rw [if_pos (by omega)])

def fwins (τ : Sf) (p : Int) : Int := if p < 0 ∨ τ 20 0 ≤ p then -101 else shr (toX τ) (τ 6) (τ 20 0) p
set_option maxHeartbeats 4000000 in
set_option maxRecDepth 100000 in
theorem c_X0_wins {E : Ev} {d : Nat} {τ ζ : Sf} {Q : Option Value → Sf → Sf → Prop} {p : Int} (hI : InvX τ) (hrg : (-2147483648 ≤ p ∧ p < 2147483648)) (hQ : ∀ (z : Int) (ζ' : Sf), z = fwins τ p → Q (some (.int (zI z))) τ ζ') : C E GX kX0_wins (d + 8) [.ref (eAd E 0), .int (zI p)] τ ζ Q := by
  refine C_of (by decide) rfl rfl ?_
  show R E GX kX0_wins (d + 8) 0 [some (.ref (eAd E 0)), some (.int (zI p))] [] τ ζ Q
  obtain ⟨hn, hm, hmk, hys, hpu, hcu, hpl, hwe, hpr, hmi, hwo, hco, hch⟩ := id hI
  refine R_aload_n dX0_wins_0 rfl ?_
  refine R_iload_n dX0_wins_1 rfl ?_
  refine R_callV1 (k2 := kX0_isPlayer) dX0_wins_2 rfl gX0_wins_X0_isPlayer kkX0_isPlayer rfl rfl (Nat.le_of_ble_eq_true rfl) (c_X0_isPlayer hI (by omega) (fun b2 => ?_) (fun b2 => ?_))
  · show R _ _ _ _ 5 _ [_] _ _ _
    refine R_if_ne (tgt := 11) (by decide) dX0_wins_5 (by decide) (fun _ => ?_) (fun h => absurd h (by decide))
    refine R_aload_n dX0_wins_11 rfl ?_
    refine R_callV0 (k2 := kX0_fillTotals) dX0_wins_12 rfl gX0_wins_X0_fillTotals kkX0_fillTotals rfl rfl (Nat.le_of_ble_eq_true rfl) (c_X0_fillTotals hI (fun ζ12 hz12 => ?_))
    show R _ _ _ _ 15 _ [] _ _ _
    refine R_aload_n dX0_wins_15 rfl ?_
    refine R_iload_n dX0_wins_16 rfl ?_
    refine R_callV1 (k2 := kX0_shareOf) dX0_wins_17 rfl gX0_wins_X0_shareOf kkX0_shareOf rfl rfl (Nat.le_of_ble_eq_true rfl) (c_X0_shareOf hI (by omega) (fun x g1 g2 => by rw [hz12 x g1 g2]; have := toX_bd hI x; omega) (fun r17 h17 => ?_))
    subst h17
    show R _ _ _ _ 20 _ [_] _ _ _
    refine R_iret rfl dX0_wins_20 ?_
    rw [shr_congr hz12 (by omega)]
    exact hQ _ _ (by unfold fwins; first | rw [if_pos (by omega)] | rw [if_neg (by omega), if_pos (by omega)] | rw [if_neg (by omega), if_neg (by omega), if_pos (by omega)] | rw [if_neg (by omega), if_neg (by omega), if_neg (by omega)] | rw [if_neg (by omega), if_neg (by omega)] | rw [if_neg (by omega)])
  · show R _ _ _ _ 5 _ [_] _ _ _
    refine R_if_ne (tgt := 11) (by decide) dX0_wins_5 (by decide) (fun h => absurd h (by decide)) (fun _ => ?_)
    refine R_bipush dX0_wins_8 (by decide) ?_
    refine R_iret rfl dX0_wins_10 ?_
    exact hQ _ _ (by unfold fwins; first | rw [if_pos (by omega)] | rw [if_neg (by omega), if_pos (by omega)] | rw [if_neg (by omega), if_neg (by omega), if_pos (by omega)] | rw [if_neg (by omega), if_neg (by omega), if_neg (by omega)] | rw [if_neg (by omega), if_neg (by omega)] | rw [if_neg (by omega)])

set_option maxHeartbeats 4000000 in
set_option maxRecDepth 100000 in
theorem c_X0_sumOf {E : Ev} {d : Nat} {τ ζ : Sf} {Q : Option Value → Sf → Sf → Prop} {q n : Nat} (hq : GX.2.1[q]? = some (.inr (0, n))) (hp : GX.1 q = true) (hn : Nat.blt n 2147483648 = true) (hQ : ∀ z : Int, z = sm (τ q) 0 n → Q (some (.int (zI z))) τ ζ) : C E GX kX0_sumOf d [.ref (eAd E q)] τ ζ Q := by
  refine C_of (by decide) rfl rfl ?_
  show R E GX kX0_sumOf d 0 [some (.ref (eAd E q)), none, none] [] τ ζ Q
  have hN := Nat.blt_eq.mp hn
  have loop : ∀ (N : Nat) (i s : Int), ((n : Int) - i).toNat = N → 0 ≤ i → i ≤ n → s + sm (τ q) i n = sm (τ q) 0 n → R E GX kX0_sumOf d 4 [some (.ref (eAd E q)), some (.int (zI s)), some (.int (zI i))] [] τ ζ Q := by
    refine st_ind (fun N ih => ?_)
    intro i s hN' hi hi2 hs
    refine R_iload_n dX0_sumOf_4 rfl ?_
    refine R_aload_n dX0_sumOf_5 rfl ?_
    refine R_alen (q := q) hq dX0_sumOf_6 ?_
    refine R_icmp_ge (tgt := 22) (by omega) dX0_sumOf_7 (by decide) (fun c7 => ?_) (fun c7 => ?_)
    · refine R_iload_n dX0_sumOf_22 rfl ?_
      refine R_iret rfl dX0_sumOf_23 ?_
      rw [sm_ge (by omega)] at hs
      exact hQ _ (by omega)
    · refine R_iload_n dX0_sumOf_10 rfl ?_
      refine R_aload_n dX0_sumOf_11 rfl ?_
      refine R_iload_n dX0_sumOf_12 rfl ?_
      refine R_iald (q := q) hq hp (by omega) hn dX0_sumOf_13 ?_
      refine R_iadd dX0_sumOf_14 ?_
      refine R_istore_n dX0_sumOf_15 rfl rfl ?_
      refine R_iinc dX0_sumOf_16 rfl rfl rfl ?_
      refine R_goto (tgt := 4) dX0_sumOf_19 (by decide) ?_
      exact ih ((n : Int) - (i + 1)).toNat (by omega) (i + 1) _ rfl (by omega) (by omega) (by rw [sm_lt (by omega)] at hs; omega)
  refine R_iconst dX0_sumOf_0 ?_
  refine R_istore_n dX0_sumOf_1 rfl rfl ?_
  refine R_iconst dX0_sumOf_2 ?_
  refine R_istore_n dX0_sumOf_3 rfl rfl ?_
  exact loop _ 0 0 rfl (by omega) (by omega) (by omega)

def frest (τ : Sf) : Int := sm (τ 6) 0 6 - sm (shr (toX τ) (τ 6) (τ 20 0)) 0 (τ 20 0)
set_option maxHeartbeats 4000000 in
set_option maxRecDepth 100000 in
theorem c_X0_rest {E : Ev} {d : Nat} {τ ζ : Sf} {Q : Option Value → Sf → Sf → Prop} (hI : InvX τ) (hQ : ∀ (z : Int) (ζ' : Sf), z = frest τ → Q (some (.int (zI z))) τ ζ') : C E GX kX0_rest (d + 8) [.ref (eAd E 0)] τ ζ Q := by
  refine C_of (by decide) rfl rfl ?_
  show R E GX kX0_rest (d + 8) 0 [some (.ref (eAd E 0)), none, none] [] τ ζ Q
  obtain ⟨hn, hm, hmk, hys, hpu, hcu, hpl, hwe, hpr, hmi, hwo, hco, hch⟩ := id hI
  refine R_aload_n dX0_rest_0 rfl ?_
  refine R_callV0 (k2 := kX0_fillTotals) dX0_rest_1 rfl gX0_rest_X0_fillTotals kkX0_fillTotals rfl rfl (Nat.le_of_ble_eq_true rfl) (c_X0_fillTotals hI (fun ζ1 hz1 => ?_))
  show R _ _ _ _ 4 _ [] _ _ _
  refine R_aload_n dX0_rest_4 rfl ?_
  refine R_getR fX0_rest_32 dX0_rest_5 ?_
  refine R_callS1 (k2 := kX0_sumOf) dX0_rest_8 rfl gX0_rest_X0_sumOf kkX0_sumOf (Nat.le_of_ble_eq_true rfl) (c_X0_sumOf rfl rfl rfl (fun r8 h8 => ?_))
  subst h8
  show R _ _ _ _ 11 _ [_] _ _ _
  refine R_istore_n dX0_rest_11 rfl rfl ?_
  have loop : ∀ (N : Nat) (p s : Int), (τ 20 0 - p).toNat = N → 0 ≤ p → p ≤ τ 20 0 → s - sm (shr (toX τ) (τ 6) (τ 20 0)) p (τ 20 0) = frest τ → R E GX kX0_rest (d + 8) 14 [some (.ref (eAd E 0)), some (.int (zI s)), some (.int (zI p))] [] τ ζ1 Q := by
    refine st_ind (fun N ih => ?_)
    intro p s hN hx hx2 hs
    refine R_iload_n dX0_rest_14 rfl ?_
    refine R_aload_n dX0_rest_15 rfl ?_
    refine R_getI 20 fX0_rest_7 rfl rfl dX0_rest_16 ?_
    refine R_icmp_ge (tgt := 36) (by omega) dX0_rest_19 (by decide) (fun c19 => ?_) (fun c19 => ?_)
    · refine R_iload_n dX0_rest_36 rfl ?_
      refine R_iret rfl dX0_rest_37 ?_
      rw [sm_ge (by omega)] at hs
      exact hQ _ _ (by omega)
    · refine R_iload_n dX0_rest_22 rfl ?_
      refine R_aload_n dX0_rest_23 rfl ?_
      refine R_iload_n dX0_rest_24 rfl ?_
      refine R_callV1 (k2 := kX0_shareOf) dX0_rest_25 rfl gX0_rest_X0_shareOf kkX0_shareOf rfl rfl (Nat.le_of_ble_eq_true rfl) (c_X0_shareOf hI (by omega) (fun x g1 g2 => by rw [hz1 x g1 g2]; have := toX_bd hI x; omega) (fun r25 h25 => ?_))
      subst h25
      show R _ _ _ _ 28 _ [_, _] _ _ _
      rw [shr_congr hz1 (by omega)]
      refine R_isub dX0_rest_28 ?_
      refine R_istore_n dX0_rest_29 rfl rfl ?_
      refine R_iinc dX0_rest_30 rfl rfl rfl ?_
      refine R_goto (tgt := 14) dX0_rest_33 (by decide) ?_
      exact ih (τ 20 0 - (p + 1)).toNat (by omega) (p + 1) _ rfl (by omega) (by omega) (by rw [sm_lt (by omega)] at hs; omega)
  refine R_iconst dX0_rest_12 ?_
  refine R_istore_n dX0_rest_13 rfl rfl ?_
  exact loop _ 0 _ rfl (by omega) (by omega) rfl

/-! raw rules, for straight bit reckoning -/
section RX
variable {E : Ev} {G : Gd} {k : Mt} {d pc : Nat} {L : List (Option Value)} {st : List Value} {τ ζ : Sf} {Q : Option Value → Sf → Sf → Prop}
theorem R_xadd {x y : Int32} (hd : decode k.2.2.1 pc = .ok (.iadd, 1)) (K : R E G k d (pc + 1) L (.int (x + y) :: st) τ ζ Q) : R E G k d pc L (.int y :: .int x :: st) τ ζ Q := by
  intro p e s m args below meth c H locs ls X
  exact lv_iadd X.1 X.2.1 hd (K p e s m args below meth c H locs ls X)
theorem R_xsub {x y : Int32} (hd : decode k.2.2.1 pc = .ok (.isub, 1)) (K : R E G k d (pc + 1) L (.int (x - y) :: st) τ ζ Q) : R E G k d pc L (.int y :: .int x :: st) τ ζ Q := by
  intro p e s m args below meth c H locs ls X
  exact lv_isub X.1 X.2.1 hd (K p e s m args below meth c H locs ls X)
theorem R_xand {x y : Int32} (hd : decode k.2.2.1 pc = .ok (.iand, 1)) (K : R E G k d (pc + 1) L (.int (x &&& y) :: st) τ ζ Q) : R E G k d pc L (.int y :: .int x :: st) τ ζ Q := by
  intro p e s m args below meth c H locs ls X
  exact lv_iand X.1 X.2.1 hd (K p e s m args below meth c H locs ls X)
theorem R_xushr {x y : Int32} (hd : decode k.2.2.1 pc = .ok (.iushr, 1)) (K : R E G k d (pc + 1) L (.int (x.toUInt32 >>> (y.toUInt32 &&& Int32.toUInt32 31)).toInt32 :: st) τ ζ Q) : R E G k d pc L (.int y :: .int x :: st) τ ζ Q := by
  intro p e s m args below meth c H locs ls X
  exact lv_iushr X.1 X.2.1 hd rfl (K p e s m args below meth c H locs ls X)
theorem R_xret {x : Int32} (z : Int) (hx : x = zI z) (hr : k.2.2.2.2 = some .int) (hd : decode k.2.2.1 pc = .ok (.ireturn, 1)) (K : Q (some (.int (zI z))) τ ζ) : R E G k d pc L [.int x] τ ζ Q := by
  subst hx
  exact R_iret hr hd K
theorem R_ldcw {i : Nat} {v : Int32} (z : Int) (hd : decode k.2.2.1 pc = .ok (.ldc_w i, 3)) (hc : Jvm.Cond.constant k.1.cls i v ∈ k.2.1) (hv : v = zI z) (K : R E G k d (pc + 3) L (.int (zI z) :: st) τ ζ Q) : R E G k d pc L st τ ζ Q := by
  subst hv
  intro p e s m args below meth c H locs ls X
  exact lv_ldcw X.1 X.2.1 X.2.2.2.2.2.2.1 (X.2.2.2.2.2.1 _ hc) hd (K p e s m args below meth c H locs ls X)
end RX
theorem cnJ6_bitCount_0f7a4_265 : Jvm.Cond.constant RJ6 265 (1431655765) ∈ wsJ6_bitCount_0f7a4 := by decide +kernel
theorem cnJ6_bitCount_0f7a4_266 : Jvm.Cond.constant RJ6 266 (858993459) ∈ wsJ6_bitCount_0f7a4 := by decide +kernel
theorem cnJ6_bitCount_0f7a4_267 : Jvm.Cond.constant RJ6 267 (252645135) ∈ wsJ6_bitCount_0f7a4 := by decide +kernel
def xsh (x : Int32) (n : Int) : Int32 := (x.toUInt32 >>> ((zI n).toUInt32 &&& Int32.toUInt32 31)).toInt32
def bc1 (x : Int32) : Int32 := x - (xsh x 1 &&& zI 1431655765)
def bc2 (x : Int32) : Int32 := (x &&& zI 858993459) + (xsh x 2 &&& zI 858993459)
def bc3 (x : Int32) : Int32 := (x + xsh x 4) &&& zI 252645135
def bc4 (x : Int32) : Int32 := x + xsh x 8
def bc5 (x : Int32) : Int32 := x + xsh x 16
def bcE (x : Int32) : Int32 := bc5 (bc4 (bc3 (bc2 (bc1 x)))) &&& zI 63
def pop (z n : Int) : Int := sm (fun q => z / p2 q % 2) 0 n
theorem bcE_ok : ∀ n : Nat, n < 1024 → bcE (zI (n : Int)) = zI (pop (n : Int) 10) := by decide +kernel
theorem pop_n {z n : Int} (hz : 0 ≤ z ∧ z < p2 n) (hn : 0 ≤ n) : ∀ k : Nat, pop z (n + k) = pop z n := by
  intro k
  induction k with
  | zero => rw [show n + ((0 : Nat) : Int) = n by omega]
  | succ k ih =>
    rw [show n + ((k + 1 : Nat) : Int) = n + k + 1 by omega]
    have h1 : pop z (n + k + 1) = pop z (n + k) + z / p2 (n + k) % 2 := sm_last 0 (by omega)
    have h2 : p2 n ≤ p2 (n + k) := by
      rw [p2_add hn (by omega)]
      have := p2_pos k
      have := p2_pos n
      have := Int.mul_le_mul_of_nonneg_right (show 1 ≤ p2 k by omega) (show 0 ≤ p2 n by omega)
      omega
    rw [h1, ih, Int.ediv_eq_zero_of_lt hz.1 (by omega)]
    omega
def xr (a b : Int) : Int := ((a.toNat ^^^ b.toNat : Nat) : Int)
theorem zI_xr {a b : Int} (ha : 0 ≤ a) (hb : 0 ≤ b) : zI a ^^^ zI b = zI (xr a b) := by
  obtain ⟨n, rfl⟩ : ∃ n : Nat, a = n := ⟨a.toNat, by omega⟩
  obtain ⟨m, rfl⟩ : ∃ m : Nat, b = m := ⟨b.toNat, by omega⟩
  rw [zI_xor]
  rfl
theorem xr_bd {a b n : Int} (hn : 0 ≤ n) (ha : 0 ≤ a ∧ a < p2 n) (hb : 0 ≤ b ∧ b < p2 n) : 0 ≤ xr a b ∧ xr a b < p2 n := by
  have h1 : p2 n = ((2 ^ n.toNat : Nat) : Int) := by
    unfold p2
    rw [Int.natCast_pow]
    rfl
  rw [h1] at ha hb ⊢
  have h2 : a.toNat ^^^ b.toNat < 2 ^ n.toNat := Nat.xor_lt_two_pow (by omega) (by omega)
  unfold xr
  omega

set_option maxHeartbeats 4000000 in
set_option maxRecDepth 100000 in
theorem c_J6_bitCount_0f7a4 {E : Ev} {d : Nat} {τ ζ : Sf} {Q : Option Value → Sf → Sf → Prop} {z : Int} (hz : 0 ≤ z ∧ z < 1024) (hQ : Q (some (.int (zI (pop z 10)))) τ ζ) : C E GX kJ6_bitCount_0f7a4 d [.int (zI z)] τ ζ Q := by
  refine C_of (by decide) rfl rfl ?_
  show R E GX kJ6_bitCount_0f7a4 d 0 [some (.int (zI z))] [] τ ζ Q
  have hb : bcE (zI z) = zI (pop z 10) := by
    have := bcE_ok z.toNat (by omega)
    rwa [show ((z.toNat : Nat) : Int) = z by omega] at this
  refine R_iload_n dJ6_bitCount_0f7a4_0 rfl ?_
  refine R_iload_n dJ6_bitCount_0f7a4_1 rfl ?_
  refine R_iconst dJ6_bitCount_0f7a4_2 ?_
  refine R_xushr dJ6_bitCount_0f7a4_3 ?_
  refine R_ldcw 1431655765 dJ6_bitCount_0f7a4_4 cnJ6_bitCount_0f7a4_265 rfl ?_
  refine R_xand dJ6_bitCount_0f7a4_7 ?_
  refine R_xsub dJ6_bitCount_0f7a4_8 ?_
  refine R_istore_n dJ6_bitCount_0f7a4_9 rfl rfl ?_
  refine R_iload_n dJ6_bitCount_0f7a4_10 rfl ?_
  refine R_ldcw 858993459 dJ6_bitCount_0f7a4_11 cnJ6_bitCount_0f7a4_266 rfl ?_
  refine R_xand dJ6_bitCount_0f7a4_14 ?_
  refine R_iload_n dJ6_bitCount_0f7a4_15 rfl ?_
  refine R_iconst dJ6_bitCount_0f7a4_16 ?_
  refine R_xushr dJ6_bitCount_0f7a4_17 ?_
  refine R_ldcw 858993459 dJ6_bitCount_0f7a4_18 cnJ6_bitCount_0f7a4_266 rfl ?_
  refine R_xand dJ6_bitCount_0f7a4_21 ?_
  refine R_xadd dJ6_bitCount_0f7a4_22 ?_
  refine R_istore_n dJ6_bitCount_0f7a4_23 rfl rfl ?_
  refine R_iload_n dJ6_bitCount_0f7a4_24 rfl ?_
  refine R_iload_n dJ6_bitCount_0f7a4_25 rfl ?_
  refine R_iconst dJ6_bitCount_0f7a4_26 ?_
  refine R_xushr dJ6_bitCount_0f7a4_27 ?_
  refine R_xadd dJ6_bitCount_0f7a4_28 ?_
  refine R_ldcw 252645135 dJ6_bitCount_0f7a4_29 cnJ6_bitCount_0f7a4_267 rfl ?_
  refine R_xand dJ6_bitCount_0f7a4_32 ?_
  refine R_istore_n dJ6_bitCount_0f7a4_33 rfl rfl ?_
  refine R_iload_n dJ6_bitCount_0f7a4_34 rfl ?_
  refine R_iload_n dJ6_bitCount_0f7a4_35 rfl ?_
  refine R_bipush dJ6_bitCount_0f7a4_36 (by decide) ?_
  refine R_xushr dJ6_bitCount_0f7a4_38 ?_
  refine R_xadd dJ6_bitCount_0f7a4_39 ?_
  refine R_istore_n dJ6_bitCount_0f7a4_40 rfl rfl ?_
  refine R_iload_n dJ6_bitCount_0f7a4_41 rfl ?_
  refine R_iload_n dJ6_bitCount_0f7a4_42 rfl ?_
  refine R_bipush dJ6_bitCount_0f7a4_43 (by decide) ?_
  refine R_xushr dJ6_bitCount_0f7a4_45 ?_
  refine R_xadd dJ6_bitCount_0f7a4_46 ?_
  refine R_istore_n dJ6_bitCount_0f7a4_47 rfl rfl ?_
  refine R_iload_n dJ6_bitCount_0f7a4_48 rfl ?_
  refine R_bipush dJ6_bitCount_0f7a4_49 (by decide) ?_
  refine R_xand dJ6_bitCount_0f7a4_51 ?_
  exact R_xret (pop z 10) hb rfl dJ6_bitCount_0f7a4_52 hQ

def fdiffer (τ : Sf) (r w v k : Int) : Int := if r < 0 ∨ 2 < r then -101 else if w < 0 ∨ 5 < w ∨ v < 0 ∨ 5 < v ∨ k < 1 ∨ 10 < k then -102 else pop (xr (bsm (psb (scX τ r w) (τ 20 0) k) (τ 20 0)) (bsm (psb (scX τ r v) (τ 20 0) k) (τ 20 0))) (τ 20 0)
set_option maxHeartbeats 4000000 in
set_option maxRecDepth 100000 in
theorem c_X0_differ {E : Ev} {d : Nat} {τ ζ : Sf} {Q : Option Value → Sf → Sf → Prop} {r w v k : Int} (hI : InvX τ) (hrg : (-2147483648 ≤ r ∧ r < 2147483648) ∧ (-2147483648 ≤ w ∧ w < 2147483648) ∧ (-2147483648 ≤ v ∧ v < 2147483648) ∧ (-2147483648 ≤ k ∧ k < 2147483648)) (hQ : ∀ (z : Int) (ζ' : Sf), z = fdiffer τ r w v k → Q (some (.int (zI z))) τ ζ') : C E GX kX0_differ (d + 8) [.ref (eAd E 0), .int (zI r), .int (zI w), .int (zI v), .int (zI k)] τ ζ Q := by
  refine C_of (by decide) rfl rfl ?_
  show R E GX kX0_differ (d + 8) 0 [some (.ref (eAd E 0)), some (.int (zI r)), some (.int (zI w)), some (.int (zI v)), some (.int (zI k))] [] τ ζ Q
  obtain ⟨hn, hm, hmk, hys, hpu, hcu, hpl, hwe, hpr, hmi, hwo, hco, hch⟩ := id hI
  refine R_iload_n dX0_differ_0 rfl ?_
  refine R_callS1 (k2 := kX0_isRound) dX0_differ_1 rfl gX0_differ_X0_isRound kkX0_isRound (Nat.le_of_ble_eq_true rfl) (c_X0_isRound (by omega) (fun b1 => ?_) (fun b1 => ?_))
  · show R _ _ _ _ 4 _ [_] _ _ _
    refine R_if_ne (tgt := 10) (by decide) dX0_differ_4 (by decide) (fun _ => ?_) (fun h => absurd h (by decide))
    refine R_iload_n dX0_differ_10 rfl ?_
    refine R_callS1 (k2 := kX0_isWay) dX0_differ_11 rfl gX0_differ_X0_isWay kkX0_isWay (Nat.le_of_ble_eq_true rfl) (c_X0_isWay (by omega) (fun b11 => ?_) (fun b11 => ?_))
    · show R _ _ _ _ 14 _ [_] _ _ _
      refine R_if_eq (tgt := 32) (by decide) dX0_differ_14 (by decide) (fun h => absurd h (by decide)) (fun _ => ?_)
      refine R_iload_n dX0_differ_17 rfl ?_
      refine R_callS1 (k2 := kX0_isWay) dX0_differ_18 rfl gX0_differ_X0_isWay kkX0_isWay (Nat.le_of_ble_eq_true rfl) (c_X0_isWay (by omega) (fun b18 => ?_) (fun b18 => ?_))
      · show R _ _ _ _ 21 _ [_] _ _ _
        refine R_if_eq (tgt := 32) (by decide) dX0_differ_21 (by decide) (fun h => absurd h (by decide)) (fun _ => ?_)
        refine R_iload dX0_differ_24 rfl ?_
        refine R_callS1 (k2 := kX0_isLimit) dX0_differ_26 rfl gX0_differ_X0_isLimit kkX0_isLimit (Nat.le_of_ble_eq_true rfl) (c_X0_isLimit (by omega) (fun b26 => ?_) (fun b26 => ?_))
        · show R _ _ _ _ 29 _ [_] _ _ _
          refine R_if_ne (tgt := 35) (by decide) dX0_differ_29 (by decide) (fun _ => ?_) (fun h => absurd h (by decide))
          refine R_aload_n dX0_differ_35 rfl ?_
          refine R_iload_n dX0_differ_36 rfl ?_
          refine R_iload_n dX0_differ_37 rfl ?_
          refine R_iload dX0_differ_38 rfl ?_
          refine R_callV3 (k2 := kX0_passedBits) dX0_differ_40 rfl gX0_differ_X0_passedBits kkX0_passedBits rfl rfl (Nat.le_of_ble_eq_true rfl) (c_X0_passedBits hI (by omega) (by omega) (by omega) (fun r40 ζ40 h40 => ?_))
          subst h40
          show R _ _ _ _ 43 _ [_] _ _ _
          refine R_aload_n dX0_differ_43 rfl ?_
          refine R_iload_n dX0_differ_44 rfl ?_
          refine R_iload_n dX0_differ_45 rfl ?_
          refine R_iload dX0_differ_46 rfl ?_
          refine R_callV3 (k2 := kX0_passedBits) dX0_differ_48 rfl gX0_differ_X0_passedBits kkX0_passedBits rfl rfl (Nat.le_of_ble_eq_true rfl) (c_X0_passedBits hI (by omega) (by omega) (by omega) (fun r48 ζ48 h48 => ?_))
          subst h48
          show R _ _ _ _ 51 _ [_, _] _ _ _
          have hb1 := bsm_bd' (psb_01 (scX τ r w) (τ 20 0) k) (n := τ 20 0) (by omega)
          have hb2 := bsm_bd' (psb_01 (scX τ r v) (τ 20 0) k) (n := τ 20 0) (by omega)
          have hx := xr_bd (n := τ 20 0) (by omega) hb1 hb2
          have hpl := p2_add (p := τ 20 0) (k := 10 - τ 20 0) (by omega) (by omega)
          rw [show τ 20 0 + (10 - τ 20 0) = 10 by omega, show p2 10 = 1024 from rfl] at hpl
          have hp1 := p2_pos (10 - τ 20 0)
          have hp2 := p2_pos (τ 20 0)
          have hp3 := Int.mul_le_mul_of_nonneg_right hp1 (show 0 ≤ p2 (τ 20 0) by omega)
          have hpn := pop_n hx (by omega) (10 - τ 20 0).toNat
          rw [show τ 20 0 + (((10 - τ 20 0).toNat : Nat) : Int) = 10 by omega] at hpn
          refine R_ixor _ (zI_xr hb1.1 hb2.1) dX0_differ_51 ?_
          refine R_callS1 (k2 := kJ6_bitCount_0f7a4) dX0_differ_52 rfl gX0_differ_J6_bitCount_0f7a4 kkJ6_bitCount_0f7a4 (Nat.le_of_ble_eq_true rfl) (c_J6_bitCount_0f7a4 (by omega) ?_)
          show R _ _ _ _ 55 _ [_] _ _ _
          refine R_iret rfl dX0_differ_55 ?_
          rw [hpn]
          exact hQ _ _ (by unfold fdiffer; first | rw [if_pos (by omega)] | rw [if_neg (by omega), if_pos (by omega)] | rw [if_neg (by omega), if_neg (by omega), if_pos (by omega)] | rw [if_neg (by omega), if_neg (by omega), if_neg (by omega)] | rw [if_neg (by omega), if_neg (by omega)] | rw [if_neg (by omega)])
        · show R _ _ _ _ 29 _ [_] _ _ _
          refine R_if_ne (tgt := 35) (by decide) dX0_differ_29 (by decide) (fun h => absurd h (by decide)) (fun _ => ?_)
          refine R_bipush dX0_differ_32 (by decide) ?_
          refine R_iret rfl dX0_differ_34 ?_
          exact hQ _ _ (by unfold fdiffer; first | rw [if_pos (by omega)] | rw [if_neg (by omega), if_pos (by omega)] | rw [if_neg (by omega), if_neg (by omega), if_pos (by omega)] | rw [if_neg (by omega), if_neg (by omega), if_neg (by omega)] | rw [if_neg (by omega), if_neg (by omega)] | rw [if_neg (by omega)])
      · show R _ _ _ _ 21 _ [_] _ _ _
        refine R_if_eq (tgt := 32) (by decide) dX0_differ_21 (by decide) (fun _ => ?_) (fun h => absurd h (by decide))
        refine R_bipush dX0_differ_32 (by decide) ?_
        refine R_iret rfl dX0_differ_34 ?_
        exact hQ _ _ (by unfold fdiffer; first | rw [if_pos (by omega)] | rw [if_neg (by omega), if_pos (by omega)] | rw [if_neg (by omega), if_neg (by omega), if_pos (by omega)] | rw [if_neg (by omega), if_neg (by omega), if_neg (by omega)] | rw [if_neg (by omega), if_neg (by omega)] | rw [if_neg (by omega)])
    · show R _ _ _ _ 14 _ [_] _ _ _
      refine R_if_eq (tgt := 32) (by decide) dX0_differ_14 (by decide) (fun _ => ?_) (fun h => absurd h (by decide))
      refine R_bipush dX0_differ_32 (by decide) ?_
      refine R_iret rfl dX0_differ_34 ?_
      exact hQ _ _ (by unfold fdiffer; first | rw [if_pos (by omega)] | rw [if_neg (by omega), if_pos (by omega)] | rw [if_neg (by omega), if_neg (by omega), if_pos (by omega)] | rw [if_neg (by omega), if_neg (by omega), if_neg (by omega)] | rw [if_neg (by omega), if_neg (by omega)] | rw [if_neg (by omega)])
  · show R _ _ _ _ 4 _ [_] _ _ _
    refine R_if_ne (tgt := 10) (by decide) dX0_differ_4 (by decide) (fun h => absurd h (by decide)) (fun _ => ?_)
    refine R_bipush dX0_differ_7 (by decide) ?_
    refine R_iret rfl dX0_differ_9 ?_
    exact hQ _ _ (by unfold fdiffer; first | rw [if_pos (by omega)] | rw [if_neg (by omega), if_pos (by omega)] | rw [if_neg (by omega), if_neg (by omega), if_pos (by omega)] | rw [if_neg (by omega), if_neg (by omega), if_neg (by omega)] | rw [if_neg (by omega), if_neg (by omega)] | rw [if_neg (by omega)])

def swb (τ : Sf) (r w j k p : Int) : Int := if τ 3 (j * 10 + p) = 1 then 0 else if psb (scX (md τ r w j p 1) r w) (τ 20 0) k p ≠ psb (scX τ r w) (τ 20 0) k p ∨ psb (scX (md τ r w j p 0) r w) (τ 20 0) k p ≠ psb (scX τ r w) (τ 20 0) k p then 1 else 0
def fsway (τ : Sf) (r w j k : Int) : Int := if r < 0 ∨ 2 < r ∨ j < 0 ∨ τ 21 0 ≤ j then -101 else if w < 0 ∨ 5 < w ∨ k < 1 ∨ 10 < k then -102 else sm (swb τ r w j k) 0 (τ 20 0)
set_option maxHeartbeats 4000000 in
set_option maxRecDepth 100000 in
theorem c_X0_sway {E : Ev} {d : Nat} {τ ζ : Sf} {Q : Option Value → Sf → Sf → Prop} {r w j k : Int} (hI : InvX τ) (hrg : (-2147483648 ≤ r ∧ r < 2147483648) ∧ (-2147483648 ≤ w ∧ w < 2147483648) ∧ (-2147483648 ≤ j ∧ j < 2147483648) ∧ (-2147483648 ≤ k ∧ k < 2147483648)) (hQ : ∀ (z : Int) (ζ' : Sf), z = fsway τ r w j k → Q (some (.int (zI z))) τ ζ') : C E GX kX0_sway (d + 8) [.ref (eAd E 0), .int (zI r), .int (zI w), .int (zI j), .int (zI k)] τ ζ Q := by
  refine C_of (by decide) rfl rfl ?_
  show R E GX kX0_sway (d + 8) 0 [some (.ref (eAd E 0)), some (.int (zI r)), some (.int (zI w)), some (.int (zI j)), some (.int (zI k)), none, none, none, none, none, none] [] τ ζ Q
  obtain ⟨hn, hm, hmk, hys, hpu, hcu, hpl, hwe, hpr, hmi, hwo, hco, hch⟩ := id hI
  have hb01 := psb_01 (scX τ r w) (τ 20 0) k
  refine R_iload_n dX0_sway_0 rfl ?_
  refine R_callS1 (k2 := kX0_isRound) dX0_sway_1 rfl gX0_sway_X0_isRound kkX0_isRound (Nat.le_of_ble_eq_true rfl) (c_X0_isRound (by omega) (fun b1 => ?_) (fun b1 => ?_))
  · show R _ _ _ _ 4 _ [_] _ _ _
    refine R_if_eq (tgt := 15) (by decide) dX0_sway_4 (by decide) (fun h => absurd h (by decide)) (fun _ => ?_)
    refine R_aload_n dX0_sway_7 rfl ?_
    refine R_iload_n dX0_sway_8 rfl ?_
    refine R_callV1 (k2 := kX0_isJuror) dX0_sway_9 rfl gX0_sway_X0_isJuror kkX0_isJuror rfl rfl (Nat.le_of_ble_eq_true rfl) (c_X0_isJuror hI (by omega) (fun b9 => ?_) (fun b9 => ?_))
    · show R _ _ _ _ 12 _ [_] _ _ _
      refine R_if_ne (tgt := 18) (by decide) dX0_sway_12 (by decide) (fun _ => ?_) (fun h => absurd h (by decide))
      refine R_iload_n dX0_sway_18 rfl ?_
      refine R_callS1 (k2 := kX0_isWay) dX0_sway_19 rfl gX0_sway_X0_isWay kkX0_isWay (Nat.le_of_ble_eq_true rfl) (c_X0_isWay (by omega) (fun b19 => ?_) (fun b19 => ?_))
      · show R _ _ _ _ 22 _ [_] _ _ _
        refine R_if_eq (tgt := 33) (by decide) dX0_sway_22 (by decide) (fun h => absurd h (by decide)) (fun _ => ?_)
        refine R_iload dX0_sway_25 rfl ?_
        refine R_callS1 (k2 := kX0_isLimit) dX0_sway_27 rfl gX0_sway_X0_isLimit kkX0_isLimit (Nat.le_of_ble_eq_true rfl) (c_X0_isLimit (by omega) (fun b27 => ?_) (fun b27 => ?_))
        · show R _ _ _ _ 30 _ [_] _ _ _
          refine R_if_ne (tgt := 36) (by decide) dX0_sway_30 (by decide) (fun _ => ?_) (fun h => absurd h (by decide))
          refine R_aload_n dX0_sway_36 rfl ?_
          refine R_iload_n dX0_sway_37 rfl ?_
          refine R_iload_n dX0_sway_38 rfl ?_
          refine R_iload dX0_sway_39 rfl ?_
          refine R_callV3 (k2 := kX0_passedBits) dX0_sway_41 rfl gX0_sway_X0_passedBits kkX0_passedBits rfl rfl (Nat.le_of_ble_eq_true rfl) (c_X0_passedBits hI (by omega) (by omega) (by omega) (fun r41 ζ41 h41 => ?_))
          subst h41
          show R _ _ _ _ 44 _ [_] _ _ _
          refine R_istore dX0_sway_44 rfl rfl ?_
          have loop : ∀ (N : Nat) (p s : Int) (ζ1 : Sf) (o8 o9 o10 : Option Value), (τ 20 0 - p).toNat = N → 0 ≤ p → p ≤ τ 20 0 → okS 8 [some (.ref (eAd E 0)), some (.int (zI r)), some (.int (zI w)), some (.int (zI j)), some (.int (zI k)), some (.int (zI ((bsm (psb (scX τ r w) (τ 20 0) k) (τ 20 0))))), some (.int (zI s)), some (.int (zI p)), none, none, none] = true → okS 9 [some (.ref (eAd E 0)), some (.int (zI r)), some (.int (zI w)), some (.int (zI j)), some (.int (zI k)), some (.int (zI ((bsm (psb (scX τ r w) (τ 20 0) k) (τ 20 0))))), some (.int (zI s)), some (.int (zI p)), o8, none, none] = true → okS 10 [some (.ref (eAd E 0)), some (.int (zI r)), some (.int (zI w)), some (.int (zI j)), some (.int (zI k)), some (.int (zI ((bsm (psb (scX τ r w) (τ 20 0) k) (τ 20 0))))), some (.int (zI s)), some (.int (zI p)), none, o9, none] = true → s + sm (swb τ r w j k) p (τ 20 0) = sm (swb τ r w j k) 0 (τ 20 0) → R E GX kX0_sway (d + 8) 52 [some (.ref (eAd E 0)), some (.int (zI r)), some (.int (zI w)), some (.int (zI j)), some (.int (zI k)), some (.int (zI ((bsm (psb (scX τ r w) (τ 20 0) k) (τ 20 0))))), some (.int (zI s)), some (.int (zI p)), o8, o9, o10] [] τ ζ1 Q := by
            refine st_ind (fun N ih => ?_)
            intro p s ζ1 o8 o9 o10 hN hx hx2 g8 g9 g10 hs
            have hbb := bsm_bd' hb01 (n := τ 20 0) (by omega)
            have h10 := p2_10 (q := τ 20 0) (by omega)
            refine R_iload dX0_sway_52 rfl ?_
            refine R_aload_n dX0_sway_54 rfl ?_
            refine R_getI 20 fX0_sway_7 rfl rfl dX0_sway_55 ?_
            refine R_icmp_ge (tgt := 163) (by omega) dX0_sway_58 (by decide) (fun c58 => ?_) (fun c58 => ?_)
            · refine R_iload dX0_sway_163 rfl ?_
              refine R_iret rfl dX0_sway_165 ?_
              rw [sm_ge (by omega)] at hs
              exact hQ _ _ (by unfold fsway; first | rw [if_pos (by omega)] | rw [if_neg (by omega), if_neg (by omega)] <;> omega)
            · refine R_aload_n dX0_sway_61 rfl ?_
              refine R_iload_n dX0_sway_62 rfl ?_
              refine R_iload dX0_sway_63 rfl ?_
              refine R_callV2 (k2 := kX0_isPupil) dX0_sway_65 rfl gX0_sway_X0_isPupil kkX0_isPupil rfl rfl (Nat.le_of_ble_eq_true rfl) (c_X0_isPupil hI (by omega) (by omega) (fun b65 => ?_) (fun b65 => ?_))
              · show R _ _ _ _ 68 _ [_] _ _ _
                refine R_if_eq (tgt := 74) (by decide) dX0_sway_68 (by decide) (fun h => absurd h (by decide)) (fun _ => ?_)
                refine R_goto (tgt := 157) dX0_sway_71 (by decide) ?_
                refine R_iinc dX0_sway_157 rfl rfl rfl ?_
                refine R_goto (tgt := 52) dX0_sway_160 (by decide) ?_
                rw [sm_lt (by omega)] at hs
                refine ih (τ 20 0 - (p + 1)).toNat (by omega) (p + 1) _ _ _ _ _ rfl (by omega) (by omega) (by first | rfl | exact g8) (by first | rfl | exact g9) (by first | rfl | exact g10) ?_
                first
                | (have e : swb τ r w j k p = 0 := by
                     unfold swb
                     rw [if_pos b65]
                   omega)
                | (have e : swb τ r w j k p = 1 := by
                     unfold swb
                     rw [if_neg b65, if_pos (by omega)]
                   omega)
                | (have e : swb τ r w j k p = 0 := by
                     unfold swb
                     rw [if_neg b65, if_neg (by omega)]
                   omega)
              · show R _ _ _ _ 68 _ [_] _ _ _
                refine R_if_eq (tgt := 74) (by decide) dX0_sway_68 (by decide) (fun _ => ?_) (fun h => absurd h (by decide))
                have hbit := bsm_bit' hb01 (p := p) (n := τ 20 0) (by omega)
                have hdv := Int.ediv_nonneg (b := p2 p) hbb.1 (by have := p2_pos p; omega)
                refine R_iload dX0_sway_74 rfl ?_
                refine R_iload dX0_sway_76 rfl ?_
                refine R_ishr _ (zI_shr (by omega) (by omega)) dX0_sway_78 ?_
                refine R_iconst dX0_sway_79 ?_
                refine R_iand _ (zI_and1 hdv) dX0_sway_80 ?_
                have h01 := hb01 p
                refine R_iconst dX0_sway_81 ?_
                refine R_icmp_ne (tgt := 89) (by omega) dX0_sway_82 (by decide) (fun c82 => ?_) (fun c82 => ?_)
                · refine R_iconst dX0_sway_89 ?_
                  refine R_istore dX0_sway_90 rfl rfl ?_
                  refine R_aload_n dX0_sway_92 rfl ?_
                  refine R_iload_n dX0_sway_93 rfl ?_
                  refine R_iload_n dX0_sway_94 rfl ?_
                  refine R_iload_n dX0_sway_95 rfl ?_
                  refine R_iload dX0_sway_96 rfl ?_
                  refine R_iconst dX0_sway_98 ?_
                  refine R_callV5 (k2 := kX0_fillScoresIf) dX0_sway_99 rfl gX0_sway_X0_fillScoresIf kkX0_fillScoresIf rfl rfl (Nat.le_of_ble_eq_true rfl) (c_X0_fillScoresIf hI (by omega) (by omega) (by omega) (by omega) (by omega) (fun ζ99 hz99 hK99 => ?_))
                  show R _ _ _ _ 102 _ [] _ _ _
                  refine R_aload_n dX0_sway_102 rfl ?_
                  refine R_aload_n dX0_sway_103 rfl ?_
                  refine R_getR fX0_sway_50 dX0_sway_104 ?_
                  refine R_iload dX0_sway_107 rfl ?_
                  refine R_iload dX0_sway_109 rfl ?_
                  refine R_callV3 (k2 := kX0_passesIn) dX0_sway_111 rfl gX0_sway_X0_passesIn kkX0_passesIn rfl rfl (Nat.le_of_ble_eq_true rfl) (c_X0_passesIn rfl rfl hI (by omega) (by omega) (fun x g1 g2 => by rw [hz99 x g1 g2]; have := scX_bd (r := r) (w := w) (p := x) (md_inv (r := r) (w := w) (j := j) (p := p) (b := 1) hI (by omega)) (by omega); omega) (fun b111 => ?_) (fun b111 => ?_))
                  · show R _ _ _ _ 114 _ [_] _ _ _
                    refine R_istore dX0_sway_114 rfl rfl ?_
                    rw [psb_congr hz99 (by omega)] at b111
                    refine R_aload_n dX0_sway_116 rfl ?_
                    refine R_iload_n dX0_sway_117 rfl ?_
                    refine R_iload_n dX0_sway_118 rfl ?_
                    refine R_iload_n dX0_sway_119 rfl ?_
                    refine R_iload dX0_sway_120 rfl ?_
                    refine R_iconst dX0_sway_122 ?_
                    refine R_callV5 (k2 := kX0_fillScoresIf) dX0_sway_123 rfl gX0_sway_X0_fillScoresIf kkX0_fillScoresIf rfl rfl (Nat.le_of_ble_eq_true rfl) (c_X0_fillScoresIf hI (by omega) (by omega) (by omega) (by omega) (by omega) (fun ζ123 hz123 hK123 => ?_))
                    show R _ _ _ _ 126 _ [] _ _ _
                    refine R_aload_n dX0_sway_126 rfl ?_
                    refine R_aload_n dX0_sway_127 rfl ?_
                    refine R_getR fX0_sway_50 dX0_sway_128 ?_
                    refine R_iload dX0_sway_131 rfl ?_
                    refine R_iload dX0_sway_133 rfl ?_
                    refine R_callV3 (k2 := kX0_passesIn) dX0_sway_135 rfl gX0_sway_X0_passesIn kkX0_passesIn rfl rfl (Nat.le_of_ble_eq_true rfl) (c_X0_passesIn rfl rfl hI (by omega) (by omega) (fun x g1 g2 => by rw [hz123 x g1 g2]; have := scX_bd (r := r) (w := w) (p := x) (md_inv (r := r) (w := w) (j := j) (p := p) (b := 0) hI (by omega)) (by omega); omega) (fun b135 => ?_) (fun b135 => ?_))
                    · show R _ _ _ _ 138 _ [_] _ _ _
                      refine R_istore dX0_sway_138 rfl rfl ?_
                      rw [psb_congr hz123 (by omega)] at b135
                      refine R_iload dX0_sway_140 rfl ?_
                      refine R_iload dX0_sway_142 rfl ?_
                      refine R_icmp_ne (tgt := 154) (by decide) dX0_sway_144 (by decide) (fun _ => ?_) (fun h => absurd h (by decide))
                      refine R_iinc dX0_sway_154 rfl rfl rfl ?_
                      refine R_iinc dX0_sway_157 rfl rfl rfl ?_
                      refine R_goto (tgt := 52) dX0_sway_160 (by decide) ?_
                      rw [sm_lt (by omega)] at hs
                      refine ih (τ 20 0 - (p + 1)).toNat (by omega) (p + 1) _ _ _ _ _ rfl (by omega) (by omega) (by first | rfl | exact g8) (by first | rfl | exact g9) (by first | rfl | exact g10) ?_
                      first
                      | (have e : swb τ r w j k p = 0 := by
                           unfold swb
                           rw [if_pos b65]
                         omega)
                      | (have e : swb τ r w j k p = 1 := by
                           unfold swb
                           rw [if_neg b65, if_pos (by omega)]
                         omega)
                      | (have e : swb τ r w j k p = 0 := by
                           unfold swb
                           rw [if_neg b65, if_neg (by omega)]
                         omega)
                    · show R _ _ _ _ 138 _ [_] _ _ _
                      refine R_istore dX0_sway_138 rfl rfl ?_
                      rw [psb_congr hz123 (by omega)] at b135
                      refine R_iload dX0_sway_140 rfl ?_
                      refine R_iload dX0_sway_142 rfl ?_
                      refine R_icmp_ne (tgt := 154) (by decide) dX0_sway_144 (by decide) (fun _ => ?_) (fun h => absurd h (by decide))
                      refine R_iinc dX0_sway_154 rfl rfl rfl ?_
                      refine R_iinc dX0_sway_157 rfl rfl rfl ?_
                      refine R_goto (tgt := 52) dX0_sway_160 (by decide) ?_
                      rw [sm_lt (by omega)] at hs
                      refine ih (τ 20 0 - (p + 1)).toNat (by omega) (p + 1) _ _ _ _ _ rfl (by omega) (by omega) (by first | rfl | exact g8) (by first | rfl | exact g9) (by first | rfl | exact g10) ?_
                      first
                      | (have e : swb τ r w j k p = 0 := by
                           unfold swb
                           rw [if_pos b65]
                         omega)
                      | (have e : swb τ r w j k p = 1 := by
                           unfold swb
                           rw [if_neg b65, if_pos (by omega)]
                         omega)
                      | (have e : swb τ r w j k p = 0 := by
                           unfold swb
                           rw [if_neg b65, if_neg (by omega)]
                         omega)
                  · show R _ _ _ _ 114 _ [_] _ _ _
                    refine R_istore dX0_sway_114 rfl rfl ?_
                    rw [psb_congr hz99 (by omega)] at b111
                    refine R_aload_n dX0_sway_116 rfl ?_
                    refine R_iload_n dX0_sway_117 rfl ?_
                    refine R_iload_n dX0_sway_118 rfl ?_
                    refine R_iload_n dX0_sway_119 rfl ?_
                    refine R_iload dX0_sway_120 rfl ?_
                    refine R_iconst dX0_sway_122 ?_
                    refine R_callV5 (k2 := kX0_fillScoresIf) dX0_sway_123 rfl gX0_sway_X0_fillScoresIf kkX0_fillScoresIf rfl rfl (Nat.le_of_ble_eq_true rfl) (c_X0_fillScoresIf hI (by omega) (by omega) (by omega) (by omega) (by omega) (fun ζ123 hz123 hK123 => ?_))
                    show R _ _ _ _ 126 _ [] _ _ _
                    refine R_aload_n dX0_sway_126 rfl ?_
                    refine R_aload_n dX0_sway_127 rfl ?_
                    refine R_getR fX0_sway_50 dX0_sway_128 ?_
                    refine R_iload dX0_sway_131 rfl ?_
                    refine R_iload dX0_sway_133 rfl ?_
                    refine R_callV3 (k2 := kX0_passesIn) dX0_sway_135 rfl gX0_sway_X0_passesIn kkX0_passesIn rfl rfl (Nat.le_of_ble_eq_true rfl) (c_X0_passesIn rfl rfl hI (by omega) (by omega) (fun x g1 g2 => by rw [hz123 x g1 g2]; have := scX_bd (r := r) (w := w) (p := x) (md_inv (r := r) (w := w) (j := j) (p := p) (b := 0) hI (by omega)) (by omega); omega) (fun b135 => ?_) (fun b135 => ?_))
                    · show R _ _ _ _ 138 _ [_] _ _ _
                      refine R_istore dX0_sway_138 rfl rfl ?_
                      rw [psb_congr hz123 (by omega)] at b135
                      refine R_iload dX0_sway_140 rfl ?_
                      refine R_iload dX0_sway_142 rfl ?_
                      refine R_icmp_ne (tgt := 154) (by decide) dX0_sway_144 (by decide) (fun h => absurd h (by decide)) (fun _ => ?_)
                      refine R_iload dX0_sway_147 rfl ?_
                      refine R_iload dX0_sway_149 rfl ?_
                      refine R_icmp_eq (tgt := 157) (by decide) dX0_sway_151 (by decide) (fun h => absurd h (by decide)) (fun _ => ?_)
                      refine R_iinc dX0_sway_154 rfl rfl rfl ?_
                      refine R_iinc dX0_sway_157 rfl rfl rfl ?_
                      refine R_goto (tgt := 52) dX0_sway_160 (by decide) ?_
                      rw [sm_lt (by omega)] at hs
                      refine ih (τ 20 0 - (p + 1)).toNat (by omega) (p + 1) _ _ _ _ _ rfl (by omega) (by omega) (by first | rfl | exact g8) (by first | rfl | exact g9) (by first | rfl | exact g10) ?_
                      first
                      | (have e : swb τ r w j k p = 0 := by
                           unfold swb
                           rw [if_pos b65]
                         omega)
                      | (have e : swb τ r w j k p = 1 := by
                           unfold swb
                           rw [if_neg b65, if_pos (by omega)]
                         omega)
                      | (have e : swb τ r w j k p = 0 := by
                           unfold swb
                           rw [if_neg b65, if_neg (by omega)]
                         omega)
                    · show R _ _ _ _ 138 _ [_] _ _ _
                      refine R_istore dX0_sway_138 rfl rfl ?_
                      rw [psb_congr hz123 (by omega)] at b135
                      refine R_iload dX0_sway_140 rfl ?_
                      refine R_iload dX0_sway_142 rfl ?_
                      refine R_icmp_ne (tgt := 154) (by decide) dX0_sway_144 (by decide) (fun h => absurd h (by decide)) (fun _ => ?_)
                      refine R_iload dX0_sway_147 rfl ?_
                      refine R_iload dX0_sway_149 rfl ?_
                      refine R_icmp_eq (tgt := 157) (by decide) dX0_sway_151 (by decide) (fun _ => ?_) (fun h => absurd h (by decide))
                      refine R_iinc dX0_sway_157 rfl rfl rfl ?_
                      refine R_goto (tgt := 52) dX0_sway_160 (by decide) ?_
                      rw [sm_lt (by omega)] at hs
                      refine ih (τ 20 0 - (p + 1)).toNat (by omega) (p + 1) _ _ _ _ _ rfl (by omega) (by omega) (by first | rfl | exact g8) (by first | rfl | exact g9) (by first | rfl | exact g10) ?_
                      first
                      | (have e : swb τ r w j k p = 0 := by
                           unfold swb
                           rw [if_pos b65]
                         omega)
                      | (have e : swb τ r w j k p = 1 := by
                           unfold swb
                           rw [if_neg b65, if_pos (by omega)]
                         omega)
                      | (have e : swb τ r w j k p = 0 := by
                           unfold swb
                           rw [if_neg b65, if_neg (by omega)]
                         omega)
                · refine R_iconst dX0_sway_85 ?_
                  refine R_goto (tgt := 90) dX0_sway_86 (by decide) ?_
                  refine R_istore dX0_sway_90 rfl rfl ?_
                  refine R_aload_n dX0_sway_92 rfl ?_
                  refine R_iload_n dX0_sway_93 rfl ?_
                  refine R_iload_n dX0_sway_94 rfl ?_
                  refine R_iload_n dX0_sway_95 rfl ?_
                  refine R_iload dX0_sway_96 rfl ?_
                  refine R_iconst dX0_sway_98 ?_
                  refine R_callV5 (k2 := kX0_fillScoresIf) dX0_sway_99 rfl gX0_sway_X0_fillScoresIf kkX0_fillScoresIf rfl rfl (Nat.le_of_ble_eq_true rfl) (c_X0_fillScoresIf hI (by omega) (by omega) (by omega) (by omega) (by omega) (fun ζ99 hz99 hK99 => ?_))
                  show R _ _ _ _ 102 _ [] _ _ _
                  refine R_aload_n dX0_sway_102 rfl ?_
                  refine R_aload_n dX0_sway_103 rfl ?_
                  refine R_getR fX0_sway_50 dX0_sway_104 ?_
                  refine R_iload dX0_sway_107 rfl ?_
                  refine R_iload dX0_sway_109 rfl ?_
                  refine R_callV3 (k2 := kX0_passesIn) dX0_sway_111 rfl gX0_sway_X0_passesIn kkX0_passesIn rfl rfl (Nat.le_of_ble_eq_true rfl) (c_X0_passesIn rfl rfl hI (by omega) (by omega) (fun x g1 g2 => by rw [hz99 x g1 g2]; have := scX_bd (r := r) (w := w) (p := x) (md_inv (r := r) (w := w) (j := j) (p := p) (b := 1) hI (by omega)) (by omega); omega) (fun b111 => ?_) (fun b111 => ?_))
                  · show R _ _ _ _ 114 _ [_] _ _ _
                    refine R_istore dX0_sway_114 rfl rfl ?_
                    rw [psb_congr hz99 (by omega)] at b111
                    refine R_aload_n dX0_sway_116 rfl ?_
                    refine R_iload_n dX0_sway_117 rfl ?_
                    refine R_iload_n dX0_sway_118 rfl ?_
                    refine R_iload_n dX0_sway_119 rfl ?_
                    refine R_iload dX0_sway_120 rfl ?_
                    refine R_iconst dX0_sway_122 ?_
                    refine R_callV5 (k2 := kX0_fillScoresIf) dX0_sway_123 rfl gX0_sway_X0_fillScoresIf kkX0_fillScoresIf rfl rfl (Nat.le_of_ble_eq_true rfl) (c_X0_fillScoresIf hI (by omega) (by omega) (by omega) (by omega) (by omega) (fun ζ123 hz123 hK123 => ?_))
                    show R _ _ _ _ 126 _ [] _ _ _
                    refine R_aload_n dX0_sway_126 rfl ?_
                    refine R_aload_n dX0_sway_127 rfl ?_
                    refine R_getR fX0_sway_50 dX0_sway_128 ?_
                    refine R_iload dX0_sway_131 rfl ?_
                    refine R_iload dX0_sway_133 rfl ?_
                    refine R_callV3 (k2 := kX0_passesIn) dX0_sway_135 rfl gX0_sway_X0_passesIn kkX0_passesIn rfl rfl (Nat.le_of_ble_eq_true rfl) (c_X0_passesIn rfl rfl hI (by omega) (by omega) (fun x g1 g2 => by rw [hz123 x g1 g2]; have := scX_bd (r := r) (w := w) (p := x) (md_inv (r := r) (w := w) (j := j) (p := p) (b := 0) hI (by omega)) (by omega); omega) (fun b135 => ?_) (fun b135 => ?_))
                    · show R _ _ _ _ 138 _ [_] _ _ _
                      refine R_istore dX0_sway_138 rfl rfl ?_
                      rw [psb_congr hz123 (by omega)] at b135
                      refine R_iload dX0_sway_140 rfl ?_
                      refine R_iload dX0_sway_142 rfl ?_
                      refine R_icmp_ne (tgt := 154) (by decide) dX0_sway_144 (by decide) (fun h => absurd h (by decide)) (fun _ => ?_)
                      refine R_iload dX0_sway_147 rfl ?_
                      refine R_iload dX0_sway_149 rfl ?_
                      refine R_icmp_eq (tgt := 157) (by decide) dX0_sway_151 (by decide) (fun _ => ?_) (fun h => absurd h (by decide))
                      refine R_iinc dX0_sway_157 rfl rfl rfl ?_
                      refine R_goto (tgt := 52) dX0_sway_160 (by decide) ?_
                      rw [sm_lt (by omega)] at hs
                      refine ih (τ 20 0 - (p + 1)).toNat (by omega) (p + 1) _ _ _ _ _ rfl (by omega) (by omega) (by first | rfl | exact g8) (by first | rfl | exact g9) (by first | rfl | exact g10) ?_
                      first
                      | (have e : swb τ r w j k p = 0 := by
                           unfold swb
                           rw [if_pos b65]
                         omega)
                      | (have e : swb τ r w j k p = 1 := by
                           unfold swb
                           rw [if_neg b65, if_pos (by omega)]
                         omega)
                      | (have e : swb τ r w j k p = 0 := by
                           unfold swb
                           rw [if_neg b65, if_neg (by omega)]
                         omega)
                    · show R _ _ _ _ 138 _ [_] _ _ _
                      refine R_istore dX0_sway_138 rfl rfl ?_
                      rw [psb_congr hz123 (by omega)] at b135
                      refine R_iload dX0_sway_140 rfl ?_
                      refine R_iload dX0_sway_142 rfl ?_
                      refine R_icmp_ne (tgt := 154) (by decide) dX0_sway_144 (by decide) (fun h => absurd h (by decide)) (fun _ => ?_)
                      refine R_iload dX0_sway_147 rfl ?_
                      refine R_iload dX0_sway_149 rfl ?_
                      refine R_icmp_eq (tgt := 157) (by decide) dX0_sway_151 (by decide) (fun h => absurd h (by decide)) (fun _ => ?_)
                      refine R_iinc dX0_sway_154 rfl rfl rfl ?_
                      refine R_iinc dX0_sway_157 rfl rfl rfl ?_
                      refine R_goto (tgt := 52) dX0_sway_160 (by decide) ?_
                      rw [sm_lt (by omega)] at hs
                      refine ih (τ 20 0 - (p + 1)).toNat (by omega) (p + 1) _ _ _ _ _ rfl (by omega) (by omega) (by first | rfl | exact g8) (by first | rfl | exact g9) (by first | rfl | exact g10) ?_
                      first
                      | (have e : swb τ r w j k p = 0 := by
                           unfold swb
                           rw [if_pos b65]
                         omega)
                      | (have e : swb τ r w j k p = 1 := by
                           unfold swb
                           rw [if_neg b65, if_pos (by omega)]
                         omega)
                      | (have e : swb τ r w j k p = 0 := by
                           unfold swb
                           rw [if_neg b65, if_neg (by omega)]
                         omega)
                  · show R _ _ _ _ 114 _ [_] _ _ _
                    refine R_istore dX0_sway_114 rfl rfl ?_
                    rw [psb_congr hz99 (by omega)] at b111
                    refine R_aload_n dX0_sway_116 rfl ?_
                    refine R_iload_n dX0_sway_117 rfl ?_
                    refine R_iload_n dX0_sway_118 rfl ?_
                    refine R_iload_n dX0_sway_119 rfl ?_
                    refine R_iload dX0_sway_120 rfl ?_
                    refine R_iconst dX0_sway_122 ?_
                    refine R_callV5 (k2 := kX0_fillScoresIf) dX0_sway_123 rfl gX0_sway_X0_fillScoresIf kkX0_fillScoresIf rfl rfl (Nat.le_of_ble_eq_true rfl) (c_X0_fillScoresIf hI (by omega) (by omega) (by omega) (by omega) (by omega) (fun ζ123 hz123 hK123 => ?_))
                    show R _ _ _ _ 126 _ [] _ _ _
                    refine R_aload_n dX0_sway_126 rfl ?_
                    refine R_aload_n dX0_sway_127 rfl ?_
                    refine R_getR fX0_sway_50 dX0_sway_128 ?_
                    refine R_iload dX0_sway_131 rfl ?_
                    refine R_iload dX0_sway_133 rfl ?_
                    refine R_callV3 (k2 := kX0_passesIn) dX0_sway_135 rfl gX0_sway_X0_passesIn kkX0_passesIn rfl rfl (Nat.le_of_ble_eq_true rfl) (c_X0_passesIn rfl rfl hI (by omega) (by omega) (fun x g1 g2 => by rw [hz123 x g1 g2]; have := scX_bd (r := r) (w := w) (p := x) (md_inv (r := r) (w := w) (j := j) (p := p) (b := 0) hI (by omega)) (by omega); omega) (fun b135 => ?_) (fun b135 => ?_))
                    · show R _ _ _ _ 138 _ [_] _ _ _
                      refine R_istore dX0_sway_138 rfl rfl ?_
                      rw [psb_congr hz123 (by omega)] at b135
                      refine R_iload dX0_sway_140 rfl ?_
                      refine R_iload dX0_sway_142 rfl ?_
                      refine R_icmp_ne (tgt := 154) (by decide) dX0_sway_144 (by decide) (fun _ => ?_) (fun h => absurd h (by decide))
                      refine R_iinc dX0_sway_154 rfl rfl rfl ?_
                      refine R_iinc dX0_sway_157 rfl rfl rfl ?_
                      refine R_goto (tgt := 52) dX0_sway_160 (by decide) ?_
                      rw [sm_lt (by omega)] at hs
                      refine ih (τ 20 0 - (p + 1)).toNat (by omega) (p + 1) _ _ _ _ _ rfl (by omega) (by omega) (by first | rfl | exact g8) (by first | rfl | exact g9) (by first | rfl | exact g10) ?_
                      first
                      | (have e : swb τ r w j k p = 0 := by
                           unfold swb
                           rw [if_pos b65]
                         omega)
                      | (have e : swb τ r w j k p = 1 := by
                           unfold swb
                           rw [if_neg b65, if_pos (by omega)]
                         omega)
                      | (have e : swb τ r w j k p = 0 := by
                           unfold swb
                           rw [if_neg b65, if_neg (by omega)]
                         omega)
                    · show R _ _ _ _ 138 _ [_] _ _ _
                      refine R_istore dX0_sway_138 rfl rfl ?_
                      rw [psb_congr hz123 (by omega)] at b135
                      refine R_iload dX0_sway_140 rfl ?_
                      refine R_iload dX0_sway_142 rfl ?_
                      refine R_icmp_ne (tgt := 154) (by decide) dX0_sway_144 (by decide) (fun _ => ?_) (fun h => absurd h (by decide))
                      refine R_iinc dX0_sway_154 rfl rfl rfl ?_
                      refine R_iinc dX0_sway_157 rfl rfl rfl ?_
                      refine R_goto (tgt := 52) dX0_sway_160 (by decide) ?_
                      rw [sm_lt (by omega)] at hs
                      refine ih (τ 20 0 - (p + 1)).toNat (by omega) (p + 1) _ _ _ _ _ rfl (by omega) (by omega) (by first | rfl | exact g8) (by first | rfl | exact g9) (by first | rfl | exact g10) ?_
                      first
                      | (have e : swb τ r w j k p = 0 := by
                           unfold swb
                           rw [if_pos b65]
                         omega)
                      | (have e : swb τ r w j k p = 1 := by
                           unfold swb
                           rw [if_neg b65, if_pos (by omega)]
                         omega)
                      | (have e : swb τ r w j k p = 0 := by
                           unfold swb
                           rw [if_neg b65, if_neg (by omega)]
                         omega)
          refine R_iconst dX0_sway_46 ?_
          refine R_istore dX0_sway_47 rfl rfl ?_
          refine R_iconst dX0_sway_49 ?_
          refine R_istore dX0_sway_50 rfl rfl ?_
          exact loop _ 0 0 _ _ _ _ rfl (by omega) (by omega) rfl rfl rfl (by omega)
        · show R _ _ _ _ 30 _ [_] _ _ _
          refine R_if_ne (tgt := 36) (by decide) dX0_sway_30 (by decide) (fun h => absurd h (by decide)) (fun _ => ?_)
          refine R_bipush dX0_sway_33 (by decide) ?_
          refine R_iret rfl dX0_sway_35 ?_
          exact hQ _ _ (by unfold fsway; first | rw [if_pos (by omega)] | rw [if_neg (by omega), if_pos (by omega)] | rw [if_neg (by omega), if_neg (by omega), if_pos (by omega)] | rw [if_neg (by omega), if_neg (by omega), if_neg (by omega)] | rw [if_neg (by omega), if_neg (by omega)] | rw [if_neg (by omega)])
      · show R _ _ _ _ 22 _ [_] _ _ _
        refine R_if_eq (tgt := 33) (by decide) dX0_sway_22 (by decide) (fun _ => ?_) (fun h => absurd h (by decide))
        refine R_bipush dX0_sway_33 (by decide) ?_
        refine R_iret rfl dX0_sway_35 ?_
        exact hQ _ _ (by unfold fsway; first | rw [if_pos (by omega)] | rw [if_neg (by omega), if_pos (by omega)] | rw [if_neg (by omega), if_neg (by omega), if_pos (by omega)] | rw [if_neg (by omega), if_neg (by omega), if_neg (by omega)] | rw [if_neg (by omega), if_neg (by omega)] | rw [if_neg (by omega)])
    · show R _ _ _ _ 12 _ [_] _ _ _
      refine R_if_ne (tgt := 18) (by decide) dX0_sway_12 (by decide) (fun h => absurd h (by decide)) (fun _ => ?_)
      refine R_bipush dX0_sway_15 (by decide) ?_
      refine R_iret rfl dX0_sway_17 ?_
      exact hQ _ _ (by unfold fsway; first | rw [if_pos (by omega)] | rw [if_neg (by omega), if_pos (by omega)] | rw [if_neg (by omega), if_neg (by omega), if_pos (by omega)] | rw [if_neg (by omega), if_neg (by omega), if_neg (by omega)] | rw [if_neg (by omega), if_neg (by omega)] | rw [if_neg (by omega)])
  · show R _ _ _ _ 4 _ [_] _ _ _
    refine R_if_eq (tgt := 15) (by decide) dX0_sway_4 (by decide) (fun _ => ?_) (fun h => absurd h (by decide))
    refine R_bipush dX0_sway_15 (by decide) ?_
    refine R_iret rfl dX0_sway_17 ?_
    exact hQ _ _ (by unfold fsway; first | rw [if_pos (by omega)] | rw [if_neg (by omega), if_pos (by omega)] | rw [if_neg (by omega), if_neg (by omega), if_pos (by omega)] | rw [if_neg (by omega), if_neg (by omega), if_neg (by omega)] | rw [if_neg (by omega), if_neg (by omega)] | rw [if_neg (by omega)])

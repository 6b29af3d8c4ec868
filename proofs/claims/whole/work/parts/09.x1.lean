/-- what every PianoJury keeps -/
def InvX (τ : Sf) : Prop := (1 ≤ τ 20 0 ∧ τ 20 0 ≤ 10) ∧ (1 ≤ τ 21 0 ∧ τ 21 0 ≤ 7) ∧ (∀ i, τ 1 i = -1 ∨ (1 ≤ τ 1 i ∧ τ 1 i ≤ 100)) ∧ (∀ i, τ 2 i = 0 ∨ τ 2 i = 1) ∧ (∀ i, τ 3 i = 0 ∨ τ 3 i = 1) ∧ (0 ≤ τ 4 0 ∧ τ 4 0 ≤ 2) ∧ (1 ≤ τ 4 1 ∧ τ 4 1 ≤ 50) ∧ (∀ i, 0 ≤ τ 5 i ∧ τ 5 i ≤ 10) ∧ (∀ i, 0 ≤ τ 6 i ∧ τ 6 i ≤ 1000000) ∧ (∀ i, 1 ≤ τ 7 i ∧ τ 7 i ≤ 60) ∧ (∀ i, 0 ≤ τ 8 i ∧ τ 8 i ≤ 4095) ∧ (∀ i, 0 ≤ τ 9 i ∧ τ 9 i ≤ 3) ∧ (∀ i, -1 ≤ τ 10 i ∧ τ 10 i ≤ 2)
def VV (τ : Sf) (r p j : Int) : Int := if τ 3 (j * 10 + p) = 1 then -1 else τ 1 ((r * 7 + j) * 10 + p)
def YY (τ : Sf) (r p j : Int) : Int := τ 2 ((r * 7 + j) * 10 + p)
theorem VV_mk {τ : Sf} (hI : InvX τ) (r p : Int) : Mk (VV τ r p) := by
  intro j
  unfold VV
  split
  · exact Or.inl rfl
  · exact hI.2.2.1 _

set_option maxHeartbeats 4000000 in
set_option maxRecDepth 100000 in
theorem c_X0_isWithin {E : Ev} {d : Nat} {τ ζ : Sf} {Q : Option Value → Sf → Sf → Prop} {v a b : Int} (hr : (-2147483648 ≤ v ∧ v < 2147483648) ∧ (-2147483648 ≤ a ∧ a < 2147483648) ∧ (-2147483648 ≤ b ∧ b < 2147483648)) (h1 : (a ≤ v ∧ v ≤ b) → Q (some (.int (zI 1))) τ ζ) (h0 : (v < a ∨ b < v) → Q (some (.int (zI 0))) τ ζ) : C E GX kX0_isWithin d [.int (zI v), .int (zI a), .int (zI b)] τ ζ Q := by
  refine C_of (by decide) rfl rfl ?_
  show R E GX kX0_isWithin d 0 [some (.int (zI v)), some (.int (zI a)), some (.int (zI b))] [] τ ζ Q
  refine R_iload_n dX0_isWithin_0 rfl ?_
  refine R_iload_n dX0_isWithin_1 rfl ?_
  refine R_icmp_lt (tgt := 14) (by omega) dX0_isWithin_2 (by decide) (fun c2 => ?_) (fun c2 => ?_)
  · refine R_iconst dX0_isWithin_14 ?_
    refine R_zret rfl (by decide) dX0_isWithin_15 ?_
    exact h0 (by omega)
  · refine R_iload_n dX0_isWithin_5 rfl ?_
    refine R_iload_n dX0_isWithin_6 rfl ?_
    refine R_icmp_gt (tgt := 14) (by omega) dX0_isWithin_7 (by decide) (fun c7 => ?_) (fun c7 => ?_)
    · refine R_iconst dX0_isWithin_14 ?_
      refine R_zret rfl (by decide) dX0_isWithin_15 ?_
      exact h0 (by omega)
    · refine R_iconst dX0_isWithin_10 ?_
      refine R_goto (tgt := 15) dX0_isWithin_11 (by decide) ?_
      refine R_zret rfl (by decide) dX0_isWithin_15 ?_
      exact h1 (by omega)

set_option maxHeartbeats 4000000 in
set_option maxRecDepth 100000 in
theorem c_X0_isRound {E : Ev} {d : Nat} {τ ζ : Sf} {Q : Option Value → Sf → Sf → Prop} {v : Int} (hr : (-2147483648 ≤ v ∧ v < 2147483648)) (h1 : (0 ≤ v ∧ v ≤ 2) → Q (some (.int (zI 1))) τ ζ) (h0 : (v < 0 ∨ 2 < v) → Q (some (.int (zI 0))) τ ζ) : C E GX kX0_isRound (d + 1) [.int (zI v)] τ ζ Q := by
  refine C_of (by decide) rfl rfl ?_
  show R E GX kX0_isRound (d + 1) 0 [some (.int (zI v))] [] τ ζ Q
  refine R_iload_n dX0_isRound_0 rfl ?_
  refine R_iconst dX0_isRound_1 ?_
  refine R_iconst dX0_isRound_2 ?_
  refine R_callS3 (k2 := kX0_isWithin) dX0_isRound_3 rfl gX0_isRound_X0_isWithin kkX0_isWithin (Nat.le_of_ble_eq_true rfl) (c_X0_isWithin (by omega) (fun b3 => ?_) (fun b3 => ?_))
  · show R _ _ _ _ 6 _ [_] _ _ _
    refine R_zret rfl (by decide) dX0_isRound_6 ?_
    exact h1 (by omega)
  · show R _ _ _ _ 6 _ [_] _ _ _
    refine R_zret rfl (by decide) dX0_isRound_6 ?_
    exact h0 (by omega)

set_option maxHeartbeats 4000000 in
set_option maxRecDepth 100000 in
theorem c_X0_isWay {E : Ev} {d : Nat} {τ ζ : Sf} {Q : Option Value → Sf → Sf → Prop} {v : Int} (hr : (-2147483648 ≤ v ∧ v < 2147483648)) (h1 : (0 ≤ v ∧ v ≤ 5) → Q (some (.int (zI 1))) τ ζ) (h0 : (v < 0 ∨ 5 < v) → Q (some (.int (zI 0))) τ ζ) : C E GX kX0_isWay (d + 1) [.int (zI v)] τ ζ Q := by
  refine C_of (by decide) rfl rfl ?_
  show R E GX kX0_isWay (d + 1) 0 [some (.int (zI v))] [] τ ζ Q
  refine R_iload_n dX0_isWay_0 rfl ?_
  refine R_iconst dX0_isWay_1 ?_
  refine R_iconst dX0_isWay_2 ?_
  refine R_callS3 (k2 := kX0_isWithin) dX0_isWay_3 rfl gX0_isWay_X0_isWithin kkX0_isWithin (Nat.le_of_ble_eq_true rfl) (c_X0_isWithin (by omega) (fun b3 => ?_) (fun b3 => ?_))
  · show R _ _ _ _ 6 _ [_] _ _ _
    refine R_zret rfl (by decide) dX0_isWay_6 ?_
    exact h1 (by omega)
  · show R _ _ _ _ 6 _ [_] _ _ _
    refine R_zret rfl (by decide) dX0_isWay_6 ?_
    exact h0 (by omega)

set_option maxHeartbeats 4000000 in
set_option maxRecDepth 100000 in
theorem c_X0_isLimit {E : Ev} {d : Nat} {τ ζ : Sf} {Q : Option Value → Sf → Sf → Prop} {v : Int} (hr : (-2147483648 ≤ v ∧ v < 2147483648)) (h1 : (1 ≤ v ∧ v ≤ 10) → Q (some (.int (zI 1))) τ ζ) (h0 : (v < 1 ∨ 10 < v) → Q (some (.int (zI 0))) τ ζ) : C E GX kX0_isLimit (d + 1) [.int (zI v)] τ ζ Q := by
  refine C_of (by decide) rfl rfl ?_
  show R E GX kX0_isLimit (d + 1) 0 [some (.int (zI v))] [] τ ζ Q
  refine R_iload_n dX0_isLimit_0 rfl ?_
  refine R_iconst dX0_isLimit_1 ?_
  refine R_bipush dX0_isLimit_2 (by decide) ?_
  refine R_callS3 (k2 := kX0_isWithin) dX0_isLimit_4 rfl gX0_isLimit_X0_isWithin kkX0_isWithin (Nat.le_of_ble_eq_true rfl) (c_X0_isWithin (by omega) (fun b4 => ?_) (fun b4 => ?_))
  · show R _ _ _ _ 7 _ [_] _ _ _
    refine R_zret rfl (by decide) dX0_isLimit_7 ?_
    exact h1 (by omega)
  · show R _ _ _ _ 7 _ [_] _ _ _
    refine R_zret rfl (by decide) dX0_isLimit_7 ?_
    exact h0 (by omega)

set_option maxHeartbeats 4000000 in
set_option maxRecDepth 100000 in
theorem c_X0_isWork {E : Ev} {d : Nat} {τ ζ : Sf} {Q : Option Value → Sf → Sf → Prop} {v : Int} (hr : (-2147483648 ≤ v ∧ v < 2147483648)) (h1 : (0 ≤ v ∧ v ≤ 11) → Q (some (.int (zI 1))) τ ζ) (h0 : (v < 0 ∨ 11 < v) → Q (some (.int (zI 0))) τ ζ) : C E GX kX0_isWork (d + 1) [.int (zI v)] τ ζ Q := by
  refine C_of (by decide) rfl rfl ?_
  show R E GX kX0_isWork (d + 1) 0 [some (.int (zI v))] [] τ ζ Q
  refine R_iload_n dX0_isWork_0 rfl ?_
  refine R_iconst dX0_isWork_1 ?_
  refine R_bipush dX0_isWork_2 (by decide) ?_
  refine R_callS3 (k2 := kX0_isWithin) dX0_isWork_4 rfl gX0_isWork_X0_isWithin kkX0_isWithin (Nat.le_of_ble_eq_true rfl) (c_X0_isWithin (by omega) (fun b4 => ?_) (fun b4 => ?_))
  · show R _ _ _ _ 7 _ [_] _ _ _
    refine R_zret rfl (by decide) dX0_isWork_7 ?_
    exact h1 (by omega)
  · show R _ _ _ _ 7 _ [_] _ _ _
    refine R_zret rfl (by decide) dX0_isWork_7 ?_
    exact h0 (by omega)

set_option maxHeartbeats 4000000 in
set_option maxRecDepth 100000 in
theorem c_X0_isJuror {E : Ev} {d : Nat} {τ ζ : Sf} {Q : Option Value → Sf → Sf → Prop} {v : Int} (hI : InvX τ) (hr : (-2147483648 ≤ v ∧ v < 2147483648)) (h1 : (0 ≤ v ∧ v < τ 21 0) → Q (some (.int (zI 1))) τ ζ) (h0 : (v < 0 ∨ τ 21 0 ≤ v) → Q (some (.int (zI 0))) τ ζ) : C E GX kX0_isJuror (d + 1) [.ref (eAd E 0), .int (zI v)] τ ζ Q := by
  refine C_of (by decide) rfl rfl ?_
  show R E GX kX0_isJuror (d + 1) 0 [some (.ref (eAd E 0)), some (.int (zI v))] [] τ ζ Q
  obtain ⟨hn, hm, hmk, hys, hpu, hcu, hpl, hwe, hpr, hmi, hwo, hco, hch⟩ := id hI
  refine R_iload_n dX0_isJuror_0 rfl ?_
  refine R_iconst dX0_isJuror_1 ?_
  refine R_aload_n dX0_isJuror_2 rfl ?_
  refine R_getI 21 fX0_isJuror_13 rfl rfl dX0_isJuror_3 ?_
  refine R_iconst dX0_isJuror_6 ?_
  refine R_isub dX0_isJuror_7 ?_
  refine R_callS3 (k2 := kX0_isWithin) dX0_isJuror_8 rfl gX0_isJuror_X0_isWithin kkX0_isWithin (Nat.le_of_ble_eq_true rfl) (c_X0_isWithin (by omega) (fun b8 => ?_) (fun b8 => ?_))
  · show R _ _ _ _ 11 _ [_] _ _ _
    refine R_zret rfl (by decide) dX0_isJuror_11 ?_
    exact h1 (by omega)
  · show R _ _ _ _ 11 _ [_] _ _ _
    refine R_zret rfl (by decide) dX0_isJuror_11 ?_
    exact h0 (by omega)

set_option maxHeartbeats 4000000 in
set_option maxRecDepth 100000 in
theorem c_X0_isPlayer {E : Ev} {d : Nat} {τ ζ : Sf} {Q : Option Value → Sf → Sf → Prop} {v : Int} (hI : InvX τ) (hr : (-2147483648 ≤ v ∧ v < 2147483648)) (h1 : (0 ≤ v ∧ v < τ 20 0) → Q (some (.int (zI 1))) τ ζ) (h0 : (v < 0 ∨ τ 20 0 ≤ v) → Q (some (.int (zI 0))) τ ζ) : C E GX kX0_isPlayer (d + 1) [.ref (eAd E 0), .int (zI v)] τ ζ Q := by
  refine C_of (by decide) rfl rfl ?_
  show R E GX kX0_isPlayer (d + 1) 0 [some (.ref (eAd E 0)), some (.int (zI v))] [] τ ζ Q
  obtain ⟨hn, hm, hmk, hys, hpu, hcu, hpl, hwe, hpr, hmi, hwo, hco, hch⟩ := id hI
  refine R_iload_n dX0_isPlayer_0 rfl ?_
  refine R_iconst dX0_isPlayer_1 ?_
  refine R_aload_n dX0_isPlayer_2 rfl ?_
  refine R_getI 20 fX0_isPlayer_7 rfl rfl dX0_isPlayer_3 ?_
  refine R_iconst dX0_isPlayer_6 ?_
  refine R_isub dX0_isPlayer_7 ?_
  refine R_callS3 (k2 := kX0_isWithin) dX0_isPlayer_8 rfl gX0_isPlayer_X0_isWithin kkX0_isWithin (Nat.le_of_ble_eq_true rfl) (c_X0_isWithin (by omega) (fun b8 => ?_) (fun b8 => ?_))
  · show R _ _ _ _ 11 _ [_] _ _ _
    refine R_zret rfl (by decide) dX0_isPlayer_11 ?_
    exact h1 (by omega)
  · show R _ _ _ _ 11 _ [_] _ _ _
    refine R_zret rfl (by decide) dX0_isPlayer_11 ?_
    exact h0 (by omega)

set_option maxHeartbeats 4000000 in
set_option maxRecDepth 100000 in
theorem c_X0_cellOf {E : Ev} {d : Nat} {τ ζ : Sf} {Q : Option Value → Sf → Sf → Prop} {r j p : Int} (hQ : ∀ z : Int, z = (r * 7 + j) * 10 + p → Q (some (.int (zI z))) τ ζ) : C E GX kX0_cellOf d [.int (zI r), .int (zI j), .int (zI p)] τ ζ Q := by
  refine C_of (by decide) rfl rfl ?_
  show R E GX kX0_cellOf d 0 [some (.int (zI r)), some (.int (zI j)), some (.int (zI p))] [] τ ζ Q
  refine R_iload_n dX0_cellOf_0 rfl ?_
  refine R_bipush dX0_cellOf_1 (by decide) ?_
  refine R_imul dX0_cellOf_3 ?_
  refine R_iload_n dX0_cellOf_4 rfl ?_
  refine R_iadd dX0_cellOf_5 ?_
  refine R_bipush dX0_cellOf_6 (by decide) ?_
  refine R_imul dX0_cellOf_8 ?_
  refine R_iload_n dX0_cellOf_9 rfl ?_
  refine R_iadd dX0_cellOf_10 ?_
  refine R_iret rfl dX0_cellOf_11 ?_
  exact hQ _ rfl

set_option maxHeartbeats 4000000 in
set_option maxRecDepth 100000 in
theorem c_X0_pupilCellOf {E : Ev} {d : Nat} {τ ζ : Sf} {Q : Option Value → Sf → Sf → Prop} {j p : Int} (hQ : ∀ z : Int, z = j * 10 + p → Q (some (.int (zI z))) τ ζ) : C E GX kX0_pupilCellOf d [.int (zI j), .int (zI p)] τ ζ Q := by
  refine C_of (by decide) rfl rfl ?_
  show R E GX kX0_pupilCellOf d 0 [some (.int (zI j)), some (.int (zI p))] [] τ ζ Q
  refine R_iload_n dX0_pupilCellOf_0 rfl ?_
  refine R_bipush dX0_pupilCellOf_1 (by decide) ?_
  refine R_imul dX0_pupilCellOf_3 ?_
  refine R_iload_n dX0_pupilCellOf_4 rfl ?_
  refine R_iadd dX0_pupilCellOf_5 ?_
  refine R_iret rfl dX0_pupilCellOf_6 ?_
  exact hQ _ rfl

set_option maxHeartbeats 4000000 in
set_option maxRecDepth 100000 in
theorem c_X0_programmeCellOf {E : Ev} {d : Nat} {τ ζ : Sf} {Q : Option Value → Sf → Sf → Prop} {p i : Int} (hQ : ∀ z : Int, z = p * 3 + i → Q (some (.int (zI z))) τ ζ) : C E GX kX0_programmeCellOf d [.int (zI p), .int (zI i)] τ ζ Q := by
  refine C_of (by decide) rfl rfl ?_
  show R E GX kX0_programmeCellOf d 0 [some (.int (zI p)), some (.int (zI i))] [] τ ζ Q
  refine R_iload_n dX0_programmeCellOf_0 rfl ?_
  refine R_iconst dX0_programmeCellOf_1 ?_
  refine R_imul dX0_programmeCellOf_2 ?_
  refine R_iload_n dX0_programmeCellOf_3 rfl ?_
  refine R_iadd dX0_programmeCellOf_4 ?_
  refine R_iret rfl dX0_programmeCellOf_5 ?_
  exact hQ _ rfl

set_option maxHeartbeats 4000000 in
set_option maxRecDepth 100000 in
theorem c_X0_replace {E : Ev} {d : Nat} {τ ζ : Sf} {Q : Option Value → Sf → Sf → Prop} {q n : Nat} (hq : GX.2.1[q]? = some (.inr (0, n))) (hp : GX.1 q = true) (hn : Nat.blt n 2147483648 = true) {z v : Int} (hz : 0 ≤ z ∧ z < n) (hQ : Q (some (.int (zI (τ q z)))) (up τ q z v) ζ) : C E GX kX0_replace d [.ref (eAd E q), .int (zI z), .int (zI v)] τ ζ Q := by
  refine C_of (by decide) rfl rfl ?_
  show R E GX kX0_replace d 0 [some (.ref (eAd E q)), some (.int (zI z)), some (.int (zI v)), none] [] τ ζ Q
  refine R_aload_n dX0_replace_0 rfl ?_
  refine R_iload_n dX0_replace_1 rfl ?_
  refine R_iald (q := q) hq hp (by omega) hn dX0_replace_2 ?_
  refine R_istore_n dX0_replace_3 rfl rfl ?_
  refine R_aload_n dX0_replace_4 rfl ?_
  refine R_iload_n dX0_replace_5 rfl ?_
  refine R_iload_n dX0_replace_6 rfl ?_
  refine R_iast (q := q) GXok hq hp (by omega) hn dX0_replace_7 ?_
  refine R_iload_n dX0_replace_8 rfl ?_
  refine R_iret rfl dX0_replace_9 ?_
  exact hQ

def fil (τ : Sf) (q : Nat) (a b v : Int) : Sf := fun k => if k = q then (fun i => if a ≤ i ∧ i < b then v else τ q i) else τ k
theorem fil_ge {τ : Sf} {q : Nat} {a b v : Int} (h : b ≤ a) : fil τ q a b v = τ := by
  funext k i
  unfold fil
  by_cases hk : k = q
  · subst hk
    rw [if_pos rfl]
    show (if a ≤ i ∧ i < b then v else τ k i) = τ k i
    rw [if_neg (by omega)]
  · rw [if_neg hk]
theorem fil_lt {τ : Sf} {q : Nat} {a b v : Int} (h : a < b) : fil (up τ q a v) q (a + 1) b v = fil τ q a b v := by
  funext k i
  unfold fil
  by_cases hk : k = q
  · subst hk
    rw [if_pos rfl, if_pos rfl]
    show (if a + 1 ≤ i ∧ i < b then v else up τ k a v k i) = if a ≤ i ∧ i < b then v else τ k i
    rw [up_eq]
    show (if a + 1 ≤ i ∧ i < b then v else if i = a then v else τ k i) = if a ≤ i ∧ i < b then v else τ k i
    by_cases h1 : a + 1 ≤ i ∧ i < b
    · rw [if_pos h1, if_pos (by omega)]
    · rw [if_neg h1]
      by_cases h2 : i = a
      · rw [if_pos h2, if_pos (by omega)]
      · rw [if_neg h2, if_neg (by omega)]
  · rw [if_neg hk, if_neg hk, up_ne hk]

set_option maxHeartbeats 4000000 in
set_option maxRecDepth 100000 in
theorem c_J7_fill_53178 {E : Ev} {d : Nat} {τ ζ : Sf} {Q : Option Value → Sf → Sf → Prop} {q n : Nat} (hq : GX.2.1[q]? = some (.inr (0, n))) (hp : GX.1 q = true) (hn : Nat.blt n 2147483648 = true) {v : Int} (hQ : Q none (fil τ q 0 n v) ζ) : C E GX kJ7_fill_53178 d [.ref (eAd E q), .int (zI v)] τ ζ Q := by
  refine C_of (by decide) rfl rfl ?_
  show R E GX kJ7_fill_53178 d 0 [some (.ref (eAd E q)), some (.int (zI v)), none, none] [] τ ζ Q
  have hN := Nat.blt_eq.mp hn
  have loop : ∀ (N : Nat) (i : Int) (τ' : Sf), ((n : Int) - i).toNat = N → 0 ≤ i → i ≤ n → fil τ' q i n v = fil τ q 0 n v → R E GX kJ7_fill_53178 d 5 [some (.ref (eAd E q)), some (.int (zI v)), some (.int (zI i)), some (.int (zI n))] [] τ' ζ Q := by
    refine st_ind (fun N ih => ?_)
    intro i τ' hN' hi hi2 hf
    refine R_iload_n dJ7_fill_53178_5 rfl ?_
    refine R_iload_n dJ7_fill_53178_6 rfl ?_
    refine R_icmp_ge (tgt := 20) (by omega) dJ7_fill_53178_7 (by decide) (fun c7 => ?_) (fun c7 => ?_)
    · refine R_vret rfl dJ7_fill_53178_20 ?_
      exact (by rw [← hf, fil_ge (by omega)] at hQ; exact hQ)
    · refine R_aload_n dJ7_fill_53178_10 rfl ?_
      refine R_iload_n dJ7_fill_53178_11 rfl ?_
      refine R_iload_n dJ7_fill_53178_12 rfl ?_
      refine R_iast (q := q) GXok hq hp (by omega) hn dJ7_fill_53178_13 ?_
      refine R_iinc dJ7_fill_53178_14 rfl rfl rfl ?_
      refine R_goto (tgt := 5) dJ7_fill_53178_17 (by decide) ?_
      exact ih ((n : Int) - (i + 1)).toNat (by omega) (i + 1) _ rfl (by omega) (by omega) (by rw [fil_lt (by omega)]; exact hf)
  refine R_iconst dJ7_fill_53178_0 ?_
  refine R_istore_n dJ7_fill_53178_1 rfl rfl ?_
  refine R_aload_n dJ7_fill_53178_2 rfl ?_
  refine R_alen (q := q) hq dJ7_fill_53178_3 ?_
  refine R_istore_n dJ7_fill_53178_4 rfl rfl ?_
  exact loop _ 0 τ rfl (by omega) (by omega) rfl

set_option maxHeartbeats 4000000 in
set_option maxRecDepth 100000 in
theorem c_X0_clearAll {E : Ev} {d : Nat} {τ ζ : Sf} {Q : Option Value → Sf → Sf → Prop} (hQ : Q none (fil (fil (fil (fil (fil τ 1 0 210 (-1)) 2 0 210 0) 3 0 70 0) 9 0 10 0) 10 0 10 (-1)) ζ) : C E GX kX0_clearAll (d + 1) [.ref (eAd E 0)] τ ζ Q := by
  refine C_of (by decide) rfl rfl ?_
  show R E GX kX0_clearAll (d + 1) 0 [some (.ref (eAd E 0))] [] τ ζ Q
  refine R_aload_n dX0_clearAll_0 rfl ?_
  refine R_getR fX0_clearAll_16 dX0_clearAll_1 ?_
  refine R_iconst dX0_clearAll_4 ?_
  refine R_callS2 (k2 := kJ7_fill_53178) dX0_clearAll_5 rfl gX0_clearAll_J7_fill_53178 kkJ7_fill_53178 (Nat.le_of_ble_eq_true rfl) (c_J7_fill_53178 rfl rfl rfl ?_)
  show R _ _ _ _ 8 _ [] _ _ _
  refine R_aload_n dX0_clearAll_8 rfl ?_
  refine R_getR fX0_clearAll_20 dX0_clearAll_9 ?_
  refine R_iconst dX0_clearAll_12 ?_
  refine R_callS2 (k2 := kJ7_fill_53178) dX0_clearAll_13 rfl gX0_clearAll_J7_fill_53178 kkJ7_fill_53178 (Nat.le_of_ble_eq_true rfl) (c_J7_fill_53178 rfl rfl rfl ?_)
  show R _ _ _ _ 16 _ [] _ _ _
  refine R_aload_n dX0_clearAll_16 rfl ?_
  refine R_getR fX0_clearAll_23 dX0_clearAll_17 ?_
  refine R_iconst dX0_clearAll_20 ?_
  refine R_callS2 (k2 := kJ7_fill_53178) dX0_clearAll_21 rfl gX0_clearAll_J7_fill_53178 kkJ7_fill_53178 (Nat.le_of_ble_eq_true rfl) (c_J7_fill_53178 rfl rfl rfl ?_)
  show R _ _ _ _ 24 _ [] _ _ _
  refine R_aload_n dX0_clearAll_24 rfl ?_
  refine R_getR fX0_clearAll_41 dX0_clearAll_25 ?_
  refine R_iconst dX0_clearAll_28 ?_
  refine R_callS2 (k2 := kJ7_fill_53178) dX0_clearAll_29 rfl gX0_clearAll_J7_fill_53178 kkJ7_fill_53178 (Nat.le_of_ble_eq_true rfl) (c_J7_fill_53178 rfl rfl rfl ?_)
  show R _ _ _ _ 32 _ [] _ _ _
  refine R_aload_n dX0_clearAll_32 rfl ?_
  refine R_getR fX0_clearAll_44 dX0_clearAll_33 ?_
  refine R_iconst dX0_clearAll_36 ?_
  refine R_callS2 (k2 := kJ7_fill_53178) dX0_clearAll_37 rfl gX0_clearAll_J7_fill_53178 kkJ7_fill_53178 (Nat.le_of_ble_eq_true rfl) (c_J7_fill_53178 rfl rfl rfl ?_)
  show R _ _ _ _ 40 _ [] _ _ _
  refine R_vret rfl dX0_clearAll_40 ?_
  exact hQ

set_option maxHeartbeats 4000000 in
set_option maxRecDepth 100000 in
theorem c_X0_isPupil {E : Ev} {d : Nat} {τ ζ : Sf} {Q : Option Value → Sf → Sf → Prop} {j p : Int} (hI : InvX τ) (hj : 0 ≤ j ∧ j < 7) (hp : 0 ≤ p ∧ p < 10) (h1 : τ 3 (j * 10 + p) = 1 → Q (some (.int (zI 1))) τ ζ) (h0 : τ 3 (j * 10 + p) ≠ 1 → Q (some (.int (zI 0))) τ ζ) : C E GX kX0_isPupil (d + 1) [.ref (eAd E 0), .int (zI j), .int (zI p)] τ ζ Q := by
  refine C_of (by decide) rfl rfl ?_
  show R E GX kX0_isPupil (d + 1) 0 [some (.ref (eAd E 0)), some (.int (zI j)), some (.int (zI p))] [] τ ζ Q
  obtain ⟨hn, hm, hmk, hys, hpu, hcu, hpl, hwe, hpr, hmi, hwo, hco, hch⟩ := id hI
  have hh := hpu (j * 10 + p)
  refine R_aload_n dX0_isPupil_0 rfl ?_
  refine R_getR fX0_isPupil_23 dX0_isPupil_1 ?_
  refine R_iload_n dX0_isPupil_4 rfl ?_
  refine R_iload_n dX0_isPupil_5 rfl ?_
  refine R_callS2 (k2 := kX0_pupilCellOf) dX0_isPupil_6 rfl gX0_isPupil_X0_pupilCellOf kkX0_pupilCellOf (Nat.le_of_ble_eq_true rfl) (c_X0_pupilCellOf (fun r6 h6 => ?_))
  subst h6
  show R _ _ _ _ 9 _ [_, _] _ _ _
  refine R_iald (q := 3) rfl rfl (by omega) rfl dX0_isPupil_9 ?_
  refine R_iconst dX0_isPupil_10 ?_
  refine R_icmp_ne (tgt := 18) (by omega) dX0_isPupil_11 (by decide) (fun c11 => ?_) (fun c11 => ?_)
  · refine R_iconst dX0_isPupil_18 ?_
    refine R_zret rfl (by decide) dX0_isPupil_19 ?_
    exact h0 (by omega)
  · refine R_iconst dX0_isPupil_14 ?_
    refine R_goto (tgt := 19) dX0_isPupil_15 (by decide) ?_
    refine R_zret rfl (by decide) dX0_isPupil_19 ?_
    exact h1 (by omega)

set_option maxHeartbeats 4000000 in
set_option maxRecDepth 100000 in
theorem c_X0_countedMark {E : Ev} {d : Nat} {τ ζ : Sf} {Q : Option Value → Sf → Sf → Prop} {r j p : Int} (hI : InvX τ) (hr : 0 ≤ r ∧ r < 3) (hj : 0 ≤ j ∧ j < 7) (hp : 0 ≤ p ∧ p < 10) (hQ : ∀ z : Int, z = VV τ r p j → Q (some (.int (zI z))) τ ζ) : C E GX kX0_countedMark (d + 1) [.ref (eAd E 0), .int (zI r), .int (zI j), .int (zI p)] τ ζ Q := by
  refine C_of (by decide) rfl rfl ?_
  show R E GX kX0_countedMark (d + 1) 0 [some (.ref (eAd E 0)), some (.int (zI r)), some (.int (zI j)), some (.int (zI p))] [] τ ζ Q
  obtain ⟨hn, hm, hmk, hys, hpu, hcu, hpl, hwe, hpr, hmi, hwo, hco, hch⟩ := id hI
  have hh := hpu (j * 10 + p)
  refine R_aload_n dX0_countedMark_0 rfl ?_
  refine R_getR fX0_countedMark_23 dX0_countedMark_1 ?_
  refine R_iload_n dX0_countedMark_4 rfl ?_
  refine R_iload_n dX0_countedMark_5 rfl ?_
  refine R_callS2 (k2 := kX0_pupilCellOf) dX0_countedMark_6 rfl gX0_countedMark_X0_pupilCellOf kkX0_pupilCellOf (Nat.le_of_ble_eq_true rfl) (c_X0_pupilCellOf (fun r6 h6 => ?_))
  subst h6
  show R _ _ _ _ 9 _ [_, _] _ _ _
  refine R_iald (q := 3) rfl rfl (by omega) rfl dX0_countedMark_9 ?_
  refine R_iconst dX0_countedMark_10 ?_
  refine R_icmp_ne (tgt := 18) (by omega) dX0_countedMark_11 (by decide) (fun c11 => ?_) (fun c11 => ?_)
  · refine R_aload_n dX0_countedMark_18 rfl ?_
    refine R_getR fX0_countedMark_16 dX0_countedMark_19 ?_
    refine R_iload_n dX0_countedMark_22 rfl ?_
    refine R_iload_n dX0_countedMark_23 rfl ?_
    refine R_iload_n dX0_countedMark_24 rfl ?_
    refine R_callS3 (k2 := kX0_cellOf) dX0_countedMark_25 rfl gX0_countedMark_X0_cellOf kkX0_cellOf (Nat.le_of_ble_eq_true rfl) (c_X0_cellOf (fun r25 h25 => ?_))
    subst h25
    show R _ _ _ _ 28 _ [_, _] _ _ _
    refine R_iald (q := 1) rfl rfl (by omega) rfl dX0_countedMark_28 ?_
    refine R_iret rfl dX0_countedMark_29 ?_
    exact hQ _ (by unfold VV; split <;> first | rfl | omega)
  · refine R_iconst dX0_countedMark_14 ?_
    refine R_goto (tgt := 29) dX0_countedMark_15 (by decide) ?_
    refine R_iret rfl dX0_countedMark_29 ?_
    exact hQ _ (by unfold VV; split <;> first | rfl | omega)

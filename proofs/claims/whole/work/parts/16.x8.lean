/-! programmes -/
def mnt (mi : Int → Int) (x : Int) : Int := sm (fun w => if x / p2 w % 2 = 1 then mi w else 0) 0 12
def fit (mi : Int → Int) (lo hi x : Int) : Int := if lo ≤ mnt mi x ∧ mnt mi x ≤ hi then x else 0
theorem mnt_bd {mi : Int → Int} (h : ∀ i, 1 ≤ mi i ∧ mi i ≤ 60) (x : Int) : 0 ≤ mnt mi x ∧ mnt mi x ≤ 720 := by
  have := sm_bd (f := fun w => if x / p2 w % 2 = 1 then mi w else 0) (lo := 0) (hi := 60) (b := 12) 0 (fun i _ _ => by have := h i; show 0 ≤ ite _ _ _ ∧ ite _ _ _ ≤ 60; split <;> omega) (by omega)
  unfold mnt
  omega
theorem fit_bd {mi : Int → Int} {lo hi x : Int} (h : 0 ≤ x ∧ x ≤ 4095) : 0 ≤ fit mi lo hi x ∧ fit mi lo hi x ≤ 4095 := by
  unfold fit
  split <;> omega
def aI (a b : Int) : Int := ((a.toNat &&& b.toNat : Nat) : Int)
def oI (a b : Int) : Int := ((a.toNat ||| b.toNat : Nat) : Int)
theorem zI_aI {a b : Int} (ha : 0 ≤ a) (hb : 0 ≤ b) : zI a &&& zI b = zI (aI a b) := by
  obtain ⟨n, rfl⟩ : ∃ n : Nat, a = n := ⟨a.toNat, by omega⟩
  obtain ⟨m, rfl⟩ : ∃ m : Nat, b = m := ⟨b.toNat, by omega⟩
  rw [zI_and]
  rfl
theorem zI_oI {a b : Int} (ha : 0 ≤ a) (hb : 0 ≤ b) : zI a ||| zI b = zI (oI a b) := by
  obtain ⟨n, rfl⟩ : ∃ n : Nat, a = n := ⟨a.toNat, by omega⟩
  obtain ⟨m, rfl⟩ : ∃ m : Nat, b = m := ⟨b.toNat, by omega⟩
  rw [zI_or]
  rfl
theorem aI_bd {a b : Int} (ha : 0 ≤ a ∧ a ≤ 4095) (hb : 0 ≤ b ∧ b ≤ 4095) : 0 ≤ aI a b ∧ aI a b ≤ 4095 := by
  have : a.toNat &&& b.toNat < 2 ^ 12 := Nat.and_lt_two_pow _ (by omega)
  unfold aI
  omega
theorem oI_bd {a b : Int} (ha : 0 ≤ a ∧ a ≤ 4095) (hb : 0 ≤ b ∧ b ≤ 4095) : 0 ≤ oI a b ∧ oI a b ≤ 4095 := by
  have : a.toNat ||| b.toNat < 2 ^ 12 := Nat.or_lt_two_pow (by omega) (by omega)
  unfold oI
  omega
def orE (a b : Option (Int → Int)) : Option (Int → Int) := match a with
  | some x => some x
  | none => b
def tr (a : Int → Option (Int → Int)) : Nat → Int → Option (Int → Int)
  | 0, _ => none
  | m + 1, i => orE (a i) (tr a m (i + 1))
theorem tr_S (a : Int → Option (Int → Int)) (m : Nat) (i : Int) : tr a (m + 1) i = orE (a i) (tr a m (i + 1)) := rfl
theorem tr_none {a : Int → Option (Int → Int)} : ∀ (m : Nat) (i : Int), (∀ j, i ≤ j → a j = none) → tr a m i = none := by
  intro m
  induction m with
  | zero => intro i _; rfl
  | succ m ih =>
    intro i h
    rw [tr_S, h i (by omega), ih (i + 1) (fun j hj => h j (by omega))]
    rfl
/-- the first choice from p on: o, t, h the works heard once, twice, thrice -/
def srF (F co : Int → Int) : Nat → Int → Int → Int → Int → Option (Int → Int)
  | 0, _, _, _, _ => some (fun _ => -1)
  | k + 1, p, o, t, h => tr (fun i => if i < co p ∧ F (p * 3 + i) ≠ 0 ∧ aI (F (p * 3 + i)) h = 0 then (srF F co k (p + 1) (oI o (F (p * 3 + i))) (oI t (aI o (F (p * 3 + i)))) (oI h (aI t (F (p * 3 + i))))).map (fun g q => if q = p then i else g q) else none) 3 0
def trF (F co : Int → Int) (k : Nat) (p o t h i : Int) : Option (Int → Int) := if i < co p ∧ F (p * 3 + i) ≠ 0 ∧ aI (F (p * 3 + i)) h = 0 then (srF F co k (p + 1) (oI o (F (p * 3 + i))) (oI t (aI o (F (p * 3 + i)))) (oI h (aI t (F (p * 3 + i))))).map (fun g q => if q = p then i else g q) else none
theorem srF_S (F co : Int → Int) (k : Nat) (p o t h : Int) : srF F co (k + 1) p o t h = tr (trF F co k p o t h) 3 0 := rfl
def setc (τ : Sf) (p n : Int) (g : Int → Int) : Sf := fun k => if k = 10 then (fun q => if p ≤ q ∧ q < n then g q else τ 10 q) else τ k
theorem setc_0 {τ : Sf} {p n : Int} {g : Int → Int} (h : n ≤ p) : setc τ p n g = τ := by
  funext k q
  unfold setc
  by_cases hk : k = 10
  · subst hk
    rw [if_pos rfl]
    show (if p ≤ q ∧ q < n then g q else τ 10 q) = τ 10 q
    rw [if_neg (by omega)]
  · rw [if_neg hk]
theorem setc_S {τ : Sf} {p n i : Int} {g : Int → Int} (h : p < n) : up (setc τ (p + 1) n g) 10 p i = setc τ p n (fun q => if q = p then i else g q) := by
  funext k q
  by_cases hk : k = 10
  · subst hk
    rw [up_at]
    show (if q = p then i else if p + 1 ≤ q ∧ q < n then g q else τ 10 q) = if p ≤ q ∧ q < n then (if q = p then i else g q) else τ 10 q
    by_cases hq : q = p
    · rw [if_pos hq, if_pos (by omega), if_pos hq]
    · rw [if_neg hq]
      by_cases h2 : p + 1 ≤ q ∧ q < n
      · rw [if_pos h2, if_pos (by omega), if_neg hq]
      · rw [if_neg h2, if_neg (by omega)]
  · rw [up_ne hk]
    unfold setc
    rw [if_neg hk, if_neg hk]

set_option maxHeartbeats 4000000 in
set_option maxRecDepth 100000 in
theorem c_X0_minutesOf {E : Ev} {d : Nat} {τ ζ : Sf} {Q : Option Value → Sf → Sf → Prop} {x : Int} (hI : InvX τ) (hx : 0 ≤ x ∧ x ≤ 4095) (hQ : ∀ z : Int, z = mnt (τ 7) x → Q (some (.int (zI z))) τ ζ) : C E GX kX0_minutesOf d [.ref (eAd E 0), .int (zI x)] τ ζ Q := by
  refine C_of (by decide) rfl rfl ?_
  show R E GX kX0_minutesOf d 0 [some (.ref (eAd E 0)), some (.int (zI x)), none, none] [] τ ζ Q
  obtain ⟨hn, hm, hmk, hys, hpu, hcu, hpl, hwe, hpr, hmi, hwo, hco, hch⟩ := id hI
  have loop : ∀ (N : Nat) (w s : Int), (12 - w).toNat = N → 0 ≤ w → w ≤ 12 → s + sm (fun w => if x / p2 w % 2 = 1 then τ 7 w else 0) w 12 = mnt (τ 7) x → R E GX kX0_minutesOf d 4 [some (.ref (eAd E 0)), some (.int (zI x)), some (.int (zI s)), some (.int (zI w))] [] τ ζ Q := by
    refine st_ind (fun N ih => ?_)
    intro w s hN hw hw2 hs
    refine R_iload_n dX0_minutesOf_4 rfl ?_
    refine R_bipush dX0_minutesOf_5 (by decide) ?_
    refine R_icmp_ge (tgt := 34) (by omega) dX0_minutesOf_7 (by decide) (fun c7 => ?_) (fun c7 => ?_)
    · refine R_iload_n dX0_minutesOf_34 rfl ?_
      refine R_iret rfl dX0_minutesOf_35 ?_
      rw [sm_ge (by omega)] at hs
      exact hQ _ (by omega)
    · have hdv := Int.ediv_nonneg (a := x) (b := p2 w) (by omega) (by have := p2_pos w; omega)
      refine R_iload_n dX0_minutesOf_10 rfl ?_
      refine R_iload_n dX0_minutesOf_11 rfl ?_
      refine R_ishr _ (zI_shr (by omega) (by omega)) dX0_minutesOf_12 ?_
      refine R_iconst dX0_minutesOf_13 ?_
      refine R_iand _ (zI_and1 hdv) dX0_minutesOf_14 ?_
      refine R_iconst dX0_minutesOf_15 ?_
      refine R_icmp_ne (tgt := 28) (by omega) dX0_minutesOf_16 (by decide) (fun c16 => ?_) (fun c16 => ?_)
      · refine R_iinc dX0_minutesOf_28 rfl rfl rfl ?_
        refine R_goto (tgt := 4) dX0_minutesOf_31 (by decide) ?_
        rw [sm_lt (by omega)] at hs
        refine ih (12 - (w + 1)).toNat (by omega) (w + 1) _ rfl (by omega) (by omega) ?_
        first
        | (rw [if_neg (show ¬ x / p2 w % 2 = 1 by omega)] at hs
           omega)
        | (rw [if_pos (show x / p2 w % 2 = 1 by omega)] at hs
           omega)
      · refine R_iload_n dX0_minutesOf_19 rfl ?_
        refine R_aload_n dX0_minutesOf_20 rfl ?_
        refine R_getR fX0_minutesOf_35 dX0_minutesOf_21 ?_
        refine R_iload_n dX0_minutesOf_24 rfl ?_
        refine R_iald (q := 7) rfl rfl (by omega) rfl dX0_minutesOf_25 ?_
        refine R_iadd dX0_minutesOf_26 ?_
        refine R_istore_n dX0_minutesOf_27 rfl rfl ?_
        refine R_iinc dX0_minutesOf_28 rfl rfl rfl ?_
        refine R_goto (tgt := 4) dX0_minutesOf_31 (by decide) ?_
        rw [sm_lt (by omega)] at hs
        refine ih (12 - (w + 1)).toNat (by omega) (w + 1) _ rfl (by omega) (by omega) ?_
        first
        | (rw [if_neg (show ¬ x / p2 w % 2 = 1 by omega)] at hs
           omega)
        | (rw [if_pos (show x / p2 w % 2 = 1 by omega)] at hs
           omega)
  refine R_iconst dX0_minutesOf_0 ?_
  refine R_istore_n dX0_minutesOf_1 rfl rfl ?_
  refine R_iconst dX0_minutesOf_2 ?_
  refine R_istore_n dX0_minutesOf_3 rfl rfl ?_
  exact loop _ 0 0 rfl (by omega) (by omega) (by unfold mnt; omega)

set_option maxHeartbeats 4000000 in
set_option maxRecDepth 100000 in
theorem c_X0_fillFitting {E : Ev} {d : Nat} {τ ζ : Sf} {Q : Option Value → Sf → Sf → Prop} {lo hi : Int} (hI : InvX τ) (hlo : 0 ≤ lo ∧ lo ≤ 720) (hhi : 0 ≤ hi ∧ hi ≤ 720) (hQ : ∀ ζ' : Sf, (∀ p i : Int, 0 ≤ p → p < τ 20 0 → 0 ≤ i → i < τ 9 p → ζ' 14 (p * 3 + i) = fit (τ 7) lo hi (τ 8 (p * 3 + i))) → Q none τ ζ') : C E GX kX0_fillFitting (d + 1) [.ref (eAd E 0), .int (zI lo), .int (zI hi)] τ ζ Q := by
  refine C_of (by decide) rfl rfl ?_
  show R E GX kX0_fillFitting (d + 1) 0 [some (.ref (eAd E 0)), some (.int (zI lo)), some (.int (zI hi)), none, none, none, none] [] τ ζ Q
  obtain ⟨hn, hm, hmk, hys, hpu, hcu, hpl, hwe, hpr, hmi, hwo, hco, hch⟩ := id hI
  have loop : ∀ (N : Nat) (p : Int) (o4 o5 o6 : Option Value) (ζ' : Sf), (τ 20 0 - p).toNat = N → 0 ≤ p → p ≤ τ 20 0 → okS 6 [none, none, none, none, none, o5, none] = true → (∀ p' i' : Int, 0 ≤ p' → p' < p → 0 ≤ i' → i' < τ 9 p' → ζ' 14 (p' * 3 + i') = fit (τ 7) lo hi (τ 8 (p' * 3 + i'))) → R E GX kX0_fillFitting (d + 1) 2 [some (.ref (eAd E 0)), some (.int (zI lo)), some (.int (zI hi)), some (.int (zI p)), o4, o5, o6] [] τ ζ' Q := by
    refine st_ind (fun N ih => ?_)
    intro p o4 o5 o6 ζ' hN hp hp2 g6o hz
    refine R_iload_n dX0_fillFitting_2 rfl ?_
    refine R_aload_n dX0_fillFitting_3 rfl ?_
    refine R_getI 20 fX0_fillFitting_7 rfl rfl dX0_fillFitting_4 ?_
    refine R_icmp_ge (tgt := 85) (by omega) dX0_fillFitting_7 (by decide) (fun c7 => ?_) (fun c7 => ?_)
    · refine R_vret rfl dX0_fillFitting_85 ?_
      exact hQ _ (fun p' i' a1 a2 a3 a4 => hz p' i' a1 (by omega) a3 a4)
    · have loop2 : ∀ (N : Nat) (i : Int) (o5 o6 : Option Value) (ζ' : Sf), (τ 9 p - i).toNat = N → 0 ≤ i → i ≤ τ 9 p → okS 5 [some (.ref (eAd E 0)), some (.int (zI lo)), some (.int (zI hi)), some (.int (zI p)), some (.int (zI i)), none, none] = true → okS 6 [some (.ref (eAd E 0)), some (.int (zI lo)), some (.int (zI hi)), some (.int (zI p)), some (.int (zI i)), o5, none] = true → (∀ p' i' : Int, 0 ≤ p' → p' < p → 0 ≤ i' → i' < τ 9 p' → ζ' 14 (p' * 3 + i') = fit (τ 7) lo hi (τ 8 (p' * 3 + i'))) → (∀ i' : Int, 0 ≤ i' → i' < i → ζ' 14 (p * 3 + i') = fit (τ 7) lo hi (τ 8 (p * 3 + i'))) → R E GX kX0_fillFitting (d + 1) 13 [some (.ref (eAd E 0)), some (.int (zI lo)), some (.int (zI hi)), some (.int (zI p)), some (.int (zI i)), o5, o6] [] τ ζ' Q := by
        refine st_ind (fun N ih2 => ?_)
        intro i o5 o6 ζ' hN2 hi hi2 g5 g6 hz2 hzi
        have hcp := hco p
        refine R_iload dX0_fillFitting_13 rfl ?_
        refine R_aload_n dX0_fillFitting_15 rfl ?_
        refine R_getR fX0_fillFitting_41 dX0_fillFitting_16 ?_
        refine R_iload_n dX0_fillFitting_19 rfl ?_
        refine R_iald (q := 9) rfl rfl (by omega) rfl dX0_fillFitting_20 ?_
        refine R_icmp_ge (tgt := 79) (by omega) dX0_fillFitting_21 (by decide) (fun c21 => ?_) (fun c21 => ?_)
        · refine R_iinc dX0_fillFitting_79 rfl rfl rfl ?_
          refine R_goto (tgt := 2) dX0_fillFitting_82 (by decide) ?_
          refine ih _ (by omega) (p + 1) _ _ _ ζ' rfl (by omega) (by omega) g6 (fun p' i' a1 a2 a3 a4 => ?_)
          by_cases hq : p' = p
          · subst hq
            exact hzi i' a3 (by omega)
          · exact hz2 p' i' a1 (by omega) a3 a4
        · refine R_iload_n dX0_fillFitting_24 rfl ?_
          refine R_iload dX0_fillFitting_25 rfl ?_
          refine R_callS2 (k2 := kX0_programmeCellOf) dX0_fillFitting_27 rfl gX0_fillFitting_X0_programmeCellOf kkX0_programmeCellOf (Nat.le_of_ble_eq_true rfl) (c_X0_programmeCellOf (fun r27 h27 => ?_))
          subst h27
          show R _ _ _ _ 30 _ [_] _ _ _
          refine R_istore dX0_fillFitting_30 rfl rfl ?_
          refine R_aload_n dX0_fillFitting_32 rfl ?_
          refine R_aload_n dX0_fillFitting_33 rfl ?_
          refine R_getR fX0_fillFitting_38 dX0_fillFitting_34 ?_
          refine R_iload dX0_fillFitting_37 rfl ?_
          refine R_iald (q := 8) rfl rfl (by omega) rfl dX0_fillFitting_39 ?_
          have hwx := hwo (p * 3 + i)
          have hmb := mnt_bd hmi (τ 8 (p * 3 + i))
          refine R_callV1 (k2 := kX0_minutesOf) dX0_fillFitting_40 rfl gX0_fillFitting_X0_minutesOf kkX0_minutesOf rfl rfl (Nat.le_of_ble_eq_true rfl) (c_X0_minutesOf hI (by omega) (fun r40 h40 => ?_))
          subst h40
          show R _ _ _ _ 43 _ [_] _ _ _
          refine R_iload_n dX0_fillFitting_43 rfl ?_
          refine R_iload_n dX0_fillFitting_44 rfl ?_
          refine R_callS3 (k2 := kX0_isWithin) dX0_fillFitting_45 rfl gX0_fillFitting_X0_isWithin kkX0_isWithin (Nat.le_of_ble_eq_true rfl) (c_X0_isWithin (by omega) (fun b45 => ?_) (fun b45 => ?_))
          · show R _ _ _ _ 48 _ [_] _ _ _
            refine R_istore dX0_fillFitting_48 rfl rfl ?_
            refine R_aload_n dX0_fillFitting_50 rfl ?_
            refine R_getR fX0_fillFitting_56 dX0_fillFitting_51 ?_
            refine R_iload dX0_fillFitting_54 rfl ?_
            refine R_iload dX0_fillFitting_56 rfl ?_
            refine R_if_eq (tgt := 71) (by decide) dX0_fillFitting_58 (by decide) (fun h => absurd h (by decide)) (fun _ => ?_)
            refine R_aload_n dX0_fillFitting_61 rfl ?_
            refine R_getR fX0_fillFitting_38 dX0_fillFitting_62 ?_
            refine R_iload dX0_fillFitting_65 rfl ?_
            refine R_iald (q := 8) rfl rfl (by omega) rfl dX0_fillFitting_67 ?_
            refine R_goto (tgt := 72) dX0_fillFitting_68 (by decide) ?_
            refine R_iasts (q := 14) GXok rfl rfl (by omega) rfl dX0_fillFitting_72 ?_
            refine R_iinc dX0_fillFitting_73 rfl rfl rfl ?_
            refine R_goto (tgt := 13) dX0_fillFitting_76 (by decide) ?_
            refine ih2 _ (by omega) (i + 1) _ _ _ rfl (by omega) (by omega) rfl rfl (fun p' i' a1 a2 a3 a4 => ?_) (fun i' a1 a2 => ?_)
            · have := hco p'
              rw [up_at, if_neg (by omega)]
              exact hz2 p' i' a1 a2 a3 a4
            · rw [up_at]
              by_cases hq : i' = i
              · subst hq
                rw [if_pos rfl]
                unfold fit
                first
                | rw [if_pos (by omega)]
                | rw [if_neg (by omega)]
              · rw [if_neg (by omega)]
                exact hzi i' a1 (by omega)
          · show R _ _ _ _ 48 _ [_] _ _ _
            refine R_istore dX0_fillFitting_48 rfl rfl ?_
            refine R_aload_n dX0_fillFitting_50 rfl ?_
            refine R_getR fX0_fillFitting_56 dX0_fillFitting_51 ?_
            refine R_iload dX0_fillFitting_54 rfl ?_
            refine R_iload dX0_fillFitting_56 rfl ?_
            refine R_if_eq (tgt := 71) (by decide) dX0_fillFitting_58 (by decide) (fun _ => ?_) (fun h => absurd h (by decide))
            refine R_iconst dX0_fillFitting_71 ?_
            refine R_iasts (q := 14) GXok rfl rfl (by omega) rfl dX0_fillFitting_72 ?_
            refine R_iinc dX0_fillFitting_73 rfl rfl rfl ?_
            refine R_goto (tgt := 13) dX0_fillFitting_76 (by decide) ?_
            refine ih2 _ (by omega) (i + 1) _ _ _ rfl (by omega) (by omega) rfl rfl (fun p' i' a1 a2 a3 a4 => ?_) (fun i' a1 a2 => ?_)
            · have := hco p'
              rw [up_at, if_neg (by omega)]
              exact hz2 p' i' a1 a2 a3 a4
            · rw [up_at]
              by_cases hq : i' = i
              · subst hq
                rw [if_pos rfl]
                unfold fit
                first
                | rw [if_pos (by omega)]
                | rw [if_neg (by omega)]
              · rw [if_neg (by omega)]
                exact hzi i' a1 (by omega)
      refine R_iconst dX0_fillFitting_10 ?_
      refine R_istore dX0_fillFitting_11 rfl rfl ?_
      exact loop2 _ 0 _ _ ζ' rfl (by omega) (by have := hco p; omega) rfl g6o hz (fun i' a1 a2 => by omega)
  refine R_iconst dX0_fillFitting_0 ?_
  refine R_istore_n dX0_fillFitting_1 rfl rfl ?_
  exact loop _ 0 none none none ζ rfl (by omega) (by omega) rfl (fun p' i' a1 a2 a3 a4 => by omega)


set_option maxHeartbeats 4000000 in
set_option maxRecDepth 100000 in
theorem c_X0_choosesWith {E : Ev} {d k : Nat} {F : Int → Int} {τ ζ : Sf} (hI : InvX τ) (hF : ∀ p i : Int, 0 ≤ p → p < τ 20 0 → 0 ≤ i → i < τ 9 p → ζ 14 (p * 3 + i) = F (p * 3 + i)) (hF2 : ∀ x, 0 ≤ F x ∧ F x ≤ 4095) (ih : ∀ (p o t h : Int) (Q : Option Value → Sf → Sf → Prop), (τ 20 0 - p).toNat = k → 0 ≤ p → p ≤ τ 20 0 → ((0 ≤ o ∧ o ≤ 4095) ∧ (0 ≤ t ∧ t ≤ 4095) ∧ (0 ≤ h ∧ h ≤ 4095)) → (∀ g : Int → Int, srF F (τ 9) k p o t h = some g → Q (some (.int (zI 1))) (setc τ p (τ 20 0) g) ζ) → (srF F (τ 9) k p o t h = none → Q (some (.int (zI 0))) τ ζ) → C E GX kX0_choosesFrom d [.ref (eAd E 0), .int (zI p), .int (zI o), .int (zI t), .int (zI h)] τ ζ Q) (p i o t h : Int) (Q : Option Value → Sf → Sf → Prop) (hk : (τ 20 0 - p).toNat = k + 1) (hp : 0 ≤ p) (hp2 : p < τ 20 0) (hi : 0 ≤ i) (hi2 : i < τ 9 p) (hms : ((0 ≤ o ∧ o ≤ 4095) ∧ (0 ≤ t ∧ t ≤ 4095) ∧ (0 ≤ h ∧ h ≤ 4095))) (h1 : ∀ g : Int → Int, trF F (τ 9) k p o t h i = some g → Q (some (.int (zI 1))) (setc τ p (τ 20 0) g) ζ) (h0 : trF F (τ 9) k p o t h i = none → Q (some (.int (zI 0))) τ ζ) : C E GX kX0_choosesWith (d + 1) [.ref (eAd E 0), .int (zI p), .int (zI i), .int (zI o), .int (zI t), .int (zI h)] τ ζ Q := by
  obtain ⟨hn, hm, hmk, hys, hpu, hcu, hpl, hwe, hpr, hmi, hwo, hco, hch⟩ := id hI
  have hcp := hco p
  have hFi := hF p i hp hp2 hi hi2
  have hFb := hF2 (p * 3 + i)
  rw [← hFi] at hFb
  have hab := aI_bd hFb hms.2.2
  have hob := oI_bd hms.1 hFb
  have hab2 := aI_bd hms.1 hFb
  have hob2 := oI_bd hms.2.1 hab2
  have hab3 := aI_bd hms.2.1 hFb
  have hob3 := oI_bd hms.2.2 hab3
  refine C_of (by decide) rfl rfl ?_
  show R E GX kX0_choosesWith (d + 1) 0 [some (.ref (eAd E 0)), some (.int (zI p)), some (.int (zI i)), some (.int (zI o)), some (.int (zI t)), some (.int (zI h)), none] [] τ ζ Q
  refine R_aload_n dX0_choosesWith_0 rfl ?_
  refine R_getR fX0_choosesWith_56 dX0_choosesWith_1 ?_
  refine R_iload_n dX0_choosesWith_4 rfl ?_
  refine R_iload_n dX0_choosesWith_5 rfl ?_
  refine R_callS2 (k2 := kX0_programmeCellOf) dX0_choosesWith_6 rfl gX0_choosesWith_X0_programmeCellOf kkX0_programmeCellOf (Nat.le_of_ble_eq_true rfl) (c_X0_programmeCellOf (fun r6 h6 => ?_))
  subst h6
  show R _ _ _ _ 9 _ [_, _] _ _ _
  refine R_ialds (q := 14) rfl rfl (by omega) rfl dX0_choosesWith_9 ?_
  refine R_istore dX0_choosesWith_10 rfl rfl ?_
  refine R_iload dX0_choosesWith_12 rfl ?_
  refine R_if_eq (tgt := 25) (by omega) dX0_choosesWith_14 (by decide) (fun c14 => ?_) (fun c14 => ?_)
  · refine R_iconst dX0_choosesWith_25 ?_
    refine R_zret rfl (by decide) dX0_choosesWith_26 ?_
    exact h0 (by
      unfold trF
      rw [← hFi]
      first
      | (rw [if_neg (by omega)]; done)
      | (rw [if_pos (by omega), b50]; rfl))
  · refine R_iload dX0_choosesWith_17 rfl ?_
    refine R_iload dX0_choosesWith_19 rfl ?_
    refine R_iand _ (zI_aI (by omega) (by omega)) dX0_choosesWith_21 ?_
    refine R_if_eq (tgt := 27) (by omega) dX0_choosesWith_22 (by decide) (fun c22 => ?_) (fun c22 => ?_)
    · refine R_aload_n dX0_choosesWith_27 rfl ?_
      refine R_iload_n dX0_choosesWith_28 rfl ?_
      refine R_iconst dX0_choosesWith_29 ?_
      refine R_iadd dX0_choosesWith_30 ?_
      refine R_iload_n dX0_choosesWith_31 rfl ?_
      refine R_iload dX0_choosesWith_32 rfl ?_
      refine R_ior _ (zI_oI (by omega) (by omega)) dX0_choosesWith_34 ?_
      refine R_iload dX0_choosesWith_35 rfl ?_
      refine R_iload_n dX0_choosesWith_37 rfl ?_
      refine R_iload dX0_choosesWith_38 rfl ?_
      refine R_iand _ (zI_aI (by omega) (by omega)) dX0_choosesWith_40 ?_
      refine R_ior _ (zI_oI (by omega) (by omega)) dX0_choosesWith_41 ?_
      refine R_iload dX0_choosesWith_42 rfl ?_
      refine R_iload dX0_choosesWith_44 rfl ?_
      refine R_iload dX0_choosesWith_46 rfl ?_
      refine R_iand _ (zI_aI (by omega) (by omega)) dX0_choosesWith_48 ?_
      refine R_ior _ (zI_oI (by omega) (by omega)) dX0_choosesWith_49 ?_
      refine R_callV4 (k2 := kX0_choosesFrom) dX0_choosesWith_50 rfl gX0_choosesWith_X0_choosesFrom kkX0_choosesFrom rfl rfl (Nat.le_of_ble_eq_true rfl) (ih _ _ _ _ _ (by omega) (by omega) (by omega) ⟨hob, hob2, hob3⟩ (fun g b50 => ?_) (fun b50 => ?_))
      · show R _ _ _ _ 53 _ [_] _ _ _
        refine R_if_ne (tgt := 58) (by decide) dX0_choosesWith_53 (by decide) (fun _ => ?_) (fun h => absurd h (by decide))
        refine R_aload_n dX0_choosesWith_58 rfl ?_
        refine R_getR fX0_choosesWith_44 dX0_choosesWith_59 ?_
        refine R_iload_n dX0_choosesWith_62 rfl ?_
        refine R_iload_n dX0_choosesWith_63 rfl ?_
        refine R_iast (q := 10) GXok rfl rfl (by omega) rfl dX0_choosesWith_64 ?_
        refine R_iconst dX0_choosesWith_65 ?_
        refine R_zret rfl (by decide) dX0_choosesWith_66 ?_
        have e : trF F (τ 9) k p o t h i = some (fun q => if q = p then i else g q) := by
          unfold trF
          rw [← hFi, if_pos (by omega), b50]
          rfl
        rw [setc_S (by omega)]
        exact h1 _ e
      · show R _ _ _ _ 53 _ [_] _ _ _
        refine R_if_ne (tgt := 58) (by decide) dX0_choosesWith_53 (by decide) (fun h => absurd h (by decide)) (fun _ => ?_)
        refine R_iconst dX0_choosesWith_56 ?_
        refine R_zret rfl (by decide) dX0_choosesWith_57 ?_
        exact h0 (by
          unfold trF
          rw [← hFi]
          first
          | (rw [if_neg (by omega)]; done)
          | (rw [if_pos (by omega), b50]; rfl))
    · refine R_iconst dX0_choosesWith_25 ?_
      refine R_zret rfl (by decide) dX0_choosesWith_26 ?_
      exact h0 (by
        unfold trF
        rw [← hFi]
        first
        | (rw [if_neg (by omega)]; done)
        | (rw [if_pos (by omega), b50]; rfl))


set_option maxHeartbeats 4000000 in
set_option maxRecDepth 100000 in
theorem c_X0_choosesFrom {E : Ev} {d : Nat} {F : Int → Int} {τ ζ : Sf} (hI : InvX τ) (hF : ∀ p i : Int, 0 ≤ p → p < τ 20 0 → 0 ≤ i → i < τ 9 p → ζ 14 (p * 3 + i) = F (p * 3 + i)) (hF2 : ∀ x, 0 ≤ F x ∧ F x ≤ 4095) : ∀ (k : Nat), ∀ (p o t h : Int) (Q : Option Value → Sf → Sf → Prop), (τ 20 0 - p).toNat = k → 0 ≤ p → p ≤ τ 20 0 → ((0 ≤ o ∧ o ≤ 4095) ∧ (0 ≤ t ∧ t ≤ 4095) ∧ (0 ≤ h ∧ h ≤ 4095)) → (∀ g : Int → Int, srF F (τ 9) k p o t h = some g → Q (some (.int (zI 1))) (setc τ p (τ 20 0) g) ζ) → (srF F (τ 9) k p o t h = none → Q (some (.int (zI 0))) τ ζ) → C E GX kX0_choosesFrom (d + 2 * k) [.ref (eAd E 0), .int (zI p), .int (zI o), .int (zI t), .int (zI h)] τ ζ Q := by
  obtain ⟨hn, hm, hmk, hys, hpu, hcu, hpl, hwe, hpr, hmi, hwo, hco, hch⟩ := id hI
  intro k
  induction k with
  | zero =>
    intro p o t h Q hk hp hp2 hms h1 h0
    refine C_of (by decide) rfl rfl ?_
    show R E GX kX0_choosesFrom (d + 2 * 0) 0 [some (.ref (eAd E 0)), some (.int (zI p)), some (.int (zI o)), some (.int (zI t)), some (.int (zI h)), none] [] τ ζ Q
    refine R_iload_n dX0_choosesFrom_0 rfl ?_
    refine R_aload_n dX0_choosesFrom_1 rfl ?_
    refine R_getI 20 fX0_choosesFrom_7 rfl rfl dX0_choosesFrom_2 ?_
    refine R_icmp_lt (tgt := 10) (by omega) dX0_choosesFrom_5 (by decide) (fun c5 => absurd c5 (by omega)) (fun c5 => ?_)
    refine R_iconst dX0_choosesFrom_8 ?_
    refine R_zret rfl (by decide) dX0_choosesFrom_9 ?_
    have h2 := h1 _ rfl
    rw [setc_0 (by omega)] at h2
    exact h2
  | succ k ih =>
    intro p o t h Q hk hp hp2 hms h1 h0
    rw [show d + 2 * (k + 1) = d + 2 * k + 1 + 1 by omega]
    refine C_of (by decide) rfl rfl ?_
    show R E GX kX0_choosesFrom (d + 2 * k + 1 + 1) 0 [some (.ref (eAd E 0)), some (.int (zI p)), some (.int (zI o)), some (.int (zI t)), some (.int (zI h)), none] [] τ ζ Q
    have hcp := hco p
    have loop : ∀ (M : Nat) (i : Int), (M : Int) = 3 - i → 0 ≤ i → tr (trF F (τ 9) k p o t h) M i = srF F (τ 9) (k + 1) p o t h → R E GX kX0_choosesFrom (d + 2 * k + 1 + 1) 13 [some (.ref (eAd E 0)), some (.int (zI p)), some (.int (zI o)), some (.int (zI t)), some (.int (zI h)), some (.int (zI i))] [] τ ζ Q := by
      intro M
      induction M with
      | zero =>
        intro i hM hi ht
        refine R_iload dX0_choosesFrom_13 rfl ?_
        refine R_aload_n dX0_choosesFrom_15 rfl ?_
        refine R_getR fX0_choosesFrom_41 dX0_choosesFrom_16 ?_
        refine R_iload_n dX0_choosesFrom_19 rfl ?_
        refine R_iald (q := 9) rfl rfl (by omega) rfl dX0_choosesFrom_20 ?_
        refine R_icmp_ge (tgt := 46) (by omega) dX0_choosesFrom_21 (by decide) (fun c21 => ?_) (fun c21 => absurd c21 (by omega))
        refine R_iconst dX0_choosesFrom_46 ?_
        refine R_zret rfl (by decide) dX0_choosesFrom_47 ?_
        exact h0 ht.symm
      | succ M ihm =>
        intro i hM hi ht
        refine R_iload dX0_choosesFrom_13 rfl ?_
        refine R_aload_n dX0_choosesFrom_15 rfl ?_
        refine R_getR fX0_choosesFrom_41 dX0_choosesFrom_16 ?_
        refine R_iload_n dX0_choosesFrom_19 rfl ?_
        refine R_iald (q := 9) rfl rfl (by omega) rfl dX0_choosesFrom_20 ?_
        refine R_icmp_ge (tgt := 46) (by omega) dX0_choosesFrom_21 (by decide) (fun c21 => ?_) (fun c21 => ?_)
        · refine R_iconst dX0_choosesFrom_46 ?_
          refine R_zret rfl (by decide) dX0_choosesFrom_47 ?_
          rw [tr_none _ _ (fun j hj => by unfold trF; rw [if_neg (by omega)])] at ht
          exact h0 ht.symm
        · refine R_aload_n dX0_choosesFrom_24 rfl ?_
          refine R_iload_n dX0_choosesFrom_25 rfl ?_
          refine R_iload dX0_choosesFrom_26 rfl ?_
          refine R_iload_n dX0_choosesFrom_28 rfl ?_
          refine R_iload_n dX0_choosesFrom_29 rfl ?_
          refine R_iload dX0_choosesFrom_30 rfl ?_
          refine R_callV5 (k2 := kX0_choosesWith) dX0_choosesFrom_32 rfl gX0_choosesFrom_X0_choosesWith kkX0_choosesWith rfl rfl (Nat.le_of_ble_eq_true rfl) (c_X0_choosesWith hI hF hF2 ih _ _ _ _ _ _ (by omega) (by omega) (by omega) (by omega) (by omega) hms (fun g b32 => ?_) (fun b32 => ?_))
          · show R _ _ _ _ 35 _ [_] _ _ _
            refine R_if_eq (tgt := 40) (by decide) dX0_choosesFrom_35 (by decide) (fun h => absurd h (by decide)) (fun _ => ?_)
            refine R_iconst dX0_choosesFrom_38 ?_
            refine R_zret rfl (by decide) dX0_choosesFrom_39 ?_
            rw [tr_S, b32] at ht
            exact h1 _ ht.symm
          · show R _ _ _ _ 35 _ [_] _ _ _
            refine R_if_eq (tgt := 40) (by decide) dX0_choosesFrom_35 (by decide) (fun _ => ?_) (fun h => absurd h (by decide))
            refine R_iinc dX0_choosesFrom_40 rfl rfl rfl ?_
            refine R_goto (tgt := 13) dX0_choosesFrom_43 (by decide) ?_
            rw [tr_S, b32] at ht
            exact ihm (i + 1) (by omega) (by omega) ht
    refine R_iload_n dX0_choosesFrom_0 rfl ?_
    refine R_aload_n dX0_choosesFrom_1 rfl ?_
    refine R_getI 20 fX0_choosesFrom_7 rfl rfl dX0_choosesFrom_2 ?_
    refine R_icmp_lt (tgt := 10) (by omega) dX0_choosesFrom_5 (by decide) (fun c5 => ?_) (fun c5 => absurd c5 (by omega))
    refine R_iconst dX0_choosesFrom_10 ?_
    refine R_istore dX0_choosesFrom_11 rfl rfl ?_
    exact loop 3 0 (by omega) (by omega) rfl

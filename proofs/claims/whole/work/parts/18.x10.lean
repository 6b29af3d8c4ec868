def dgW (τ : Sf) (p h : Int) : Int := fo (fun i h => 31 * h + τ 8 (p * 3 + i)) 0 (τ 9 p) h
/-- what digest tells: pu, rules, weights, prizes, minutes by the state's own places -/
def dgX (τ : Sf) : Int :=
  let h1 := fo (fun r h => dgR τ r h) 0 3 (31 * (31 * 193 + τ 20 0) + τ 21 0)
  let h2 := fo (fun j h => dgP τ j h) 0 (τ 21 0) h1
  let h3 := fo (fun i h => 31 * h + τ 5 i) 0 3 (fo (fun i h => 31 * h + τ 4 i) 0 2 h2)
  let h4 := fo (fun i h => 31 * h + τ 7 i) 0 12 (fo (fun i h => 31 * h + τ 6 i) 0 6 h3)
  fo (fun p h => 31 * dgW τ p h + τ 10 p) 0 (τ 20 0) h4
set_option maxHeartbeats 4000000 in
set_option maxRecDepth 100000 in
theorem c_X0_digest {E : Ev} {d : Nat} {τ ζ : Sf} {Q : Option Value → Sf → Sf → Prop} (hI : InvX τ) (hru : ∀ i, 0 ≤ τ 4 i ∧ τ 4 i ≤ 50) (hQ : ∀ (z : Int) (ζ' : Sf), z = dgX τ → Q (some (.long (zL z))) τ ζ') : C E GX kX0_digest (d + 3) [.ref (eAd E 0)] τ ζ Q := by
  refine C_of (by decide) rfl rfl ?_
  show R E GX kX0_digest (d + 3) 0 [some (.ref (eAd E 0)), none, none, none, none] [] τ ζ Q
  obtain ⟨hn, hm, hmk, hys, hpu, hcu, hpl, hwe, hpr, hmi, hwo, hco, hch⟩ := id hI
  have loopD : ∀ (N : Nat) (p s : Int) (o4 : Option Value), (τ 20 0 - p).toNat = N → 0 ≤ p → p ≤ τ 20 0 → fo (fun p h => 31 * dgW τ p h + τ 10 p) p (τ 20 0) s = dgX τ → R E GX kX0_digest (d + 3) 125 [some (.ref (eAd E 0)), some (.long (zL (s))), none, some (.int (zI p)), o4] [] τ ζ Q := by
    refine st_ind (fun N ih => ?_)
    intro p s o4 hN hp hp2 hs
    have hcp := hco p
    refine R_iload_n dX0_digest_125 rfl ?_
    refine R_aload_n dX0_digest_126 rfl ?_
    refine R_getI 20 fX0_digest_7 rfl rfl dX0_digest_127 ?_
    refine R_icmp_ge (tgt := 188) (by omega) dX0_digest_130 (by decide) (fun c130 => ?_) (fun c130 => ?_)
    · refine R_lload_n dX0_digest_188 rfl ?_
      refine R_lret rfl dX0_digest_189 ?_
      rw [fo_ge (by omega)] at hs
      exact hQ _ _ hs
    · have loopD2 : ∀ (N2 : Nat) (i s2 : Int), (τ 9 p - i).toNat = N2 → 0 ≤ i → i ≤ τ 9 p → fo (fun i h => 31 * h + τ 8 (p * 3 + i)) i (τ 9 p) s2 = dgW τ p s → R E GX kX0_digest (d + 3) 136 [some (.ref (eAd E 0)), some (.long (zL (s2))), none, some (.int (zI p)), some (.int (zI i))] [] τ ζ Q := by
        refine st_ind (fun N2 ih2 => ?_)
        intro i s2 hN2 hi hi2 hs2
        have hw1 := hwo (p * 3 + i)
        have hch1 := hch p
        refine R_iload dX0_digest_136 rfl ?_
        refine R_aload_n dX0_digest_138 rfl ?_
        refine R_getR fX0_digest_41 dX0_digest_139 ?_
        refine R_iload_n dX0_digest_142 rfl ?_
        refine R_iald (q := 9) rfl rfl (by omega) rfl dX0_digest_143 ?_
        refine R_icmp_ge (tgt := 170) (by omega) dX0_digest_144 (by decide) (fun c144 => ?_) (fun c144 => ?_)
        · refine R_lload_n dX0_digest_170 rfl ?_
          refine R_aload_n dX0_digest_171 rfl ?_
          refine R_getR fX0_digest_44 dX0_digest_172 ?_
          refine R_iload_n dX0_digest_175 rfl ?_
          refine R_iald (q := 10) rfl rfl (by omega) rfl dX0_digest_176 ?_
          refine R_i2l (by omega) dX0_digest_177 ?_
          refine R_callS2 (k2 := kX0_mixed) dX0_digest_178 rfl gX0_digest_X0_mixed kkX0_mixed (Nat.le_of_ble_eq_true rfl) (c_X0_mixed (fun r178 h178 => ?_))
          subst h178
          show R _ _ _ _ 181 _ [_] _ _ _
          refine R_lstore_n dX0_digest_181 rfl rfl ?_
          refine R_iinc dX0_digest_182 rfl rfl rfl ?_
          refine R_goto (tgt := 125) dX0_digest_185 (by decide) ?_
          rw [fo_ge (by omega)] at hs2
          rw [hs2]
          rw [fo_lt (by omega)] at hs
          exact ih _ (by omega) (p + 1) _ _ rfl (by omega) (by omega) hs
        · refine R_lload_n dX0_digest_147 rfl ?_
          refine R_aload_n dX0_digest_148 rfl ?_
          refine R_getR fX0_digest_38 dX0_digest_149 ?_
          refine R_iload_n dX0_digest_152 rfl ?_
          refine R_iload dX0_digest_153 rfl ?_
          refine R_callS2 (k2 := kX0_programmeCellOf) dX0_digest_155 rfl gX0_digest_X0_programmeCellOf kkX0_programmeCellOf (Nat.le_of_ble_eq_true rfl) (c_X0_programmeCellOf (fun r155 h155 => ?_))
          subst h155
          show R _ _ _ _ 158 _ [_, _, _] _ _ _
          refine R_iald (q := 8) rfl rfl (by omega) rfl dX0_digest_158 ?_
          refine R_i2l (by omega) dX0_digest_159 ?_
          refine R_callS2 (k2 := kX0_mixed) dX0_digest_160 rfl gX0_digest_X0_mixed kkX0_mixed (Nat.le_of_ble_eq_true rfl) (c_X0_mixed (fun r160 h160 => ?_))
          subst h160
          show R _ _ _ _ 163 _ [_] _ _ _
          refine R_lstore_n dX0_digest_163 rfl rfl ?_
          refine R_iinc dX0_digest_164 rfl rfl rfl ?_
          refine R_goto (tgt := 136) dX0_digest_167 (by decide) ?_
          rw [fo_lt (by omega)] at hs2
          exact ih2 _ (by omega) (i + 1) _ rfl (by omega) (by omega) hs2
      refine R_iconst dX0_digest_133 ?_
      refine R_istore dX0_digest_134 rfl rfl ?_
      exact loopD2 _ 0 s rfl (by omega) (by omega) rfl
  have contC : ∀ (a b : Option Value), R E GX kX0_digest (d + 3) 91 [some (.ref (eAd E 0)), some (.long (zL ((fo (fun j h => dgP τ j h) 0 (τ 21 0) (fo (fun r h => dgR τ r h) 0 3 (31 * (31 * 193 + τ 20 0) + τ 21 0)))))), none, a, b] [] τ ζ Q := by
    intro a b
    refine R_lload_n dX0_digest_91 rfl ?_
    refine R_aload_n dX0_digest_92 rfl ?_
    refine R_getR fX0_digest_26 dX0_digest_93 ?_
    refine R_callS2 (k2 := kX0_mixedRow) dX0_digest_96 rfl gX0_digest_X0_mixedRow kkX0_mixedRow (Nat.le_of_ble_eq_true rfl) (c_X0_mixedRow rfl rfl rfl (fun i => by have := hru i; omega) (fun r96 h96 => ?_))
    subst h96
    show R _ _ _ _ 99 _ [_] _ _ _
    refine R_aload_n dX0_digest_99 rfl ?_
    refine R_getR fX0_digest_29 dX0_digest_100 ?_
    refine R_callS2 (k2 := kX0_mixedRow) dX0_digest_103 rfl gX0_digest_X0_mixedRow kkX0_mixedRow (Nat.le_of_ble_eq_true rfl) (c_X0_mixedRow rfl rfl rfl (fun i => by have := hwe i; omega) (fun r103 h103 => ?_))
    subst h103
    show R _ _ _ _ 106 _ [_] _ _ _
    refine R_lstore_n dX0_digest_106 rfl rfl ?_
    refine R_lload_n dX0_digest_107 rfl ?_
    refine R_aload_n dX0_digest_108 rfl ?_
    refine R_getR fX0_digest_32 dX0_digest_109 ?_
    refine R_callS2 (k2 := kX0_mixedRow) dX0_digest_112 rfl gX0_digest_X0_mixedRow kkX0_mixedRow (Nat.le_of_ble_eq_true rfl) (c_X0_mixedRow rfl rfl rfl (fun i => by have := hpr i; omega) (fun r112 h112 => ?_))
    subst h112
    show R _ _ _ _ 115 _ [_] _ _ _
    refine R_aload_n dX0_digest_115 rfl ?_
    refine R_getR fX0_digest_35 dX0_digest_116 ?_
    refine R_callS2 (k2 := kX0_mixedRow) dX0_digest_119 rfl gX0_digest_X0_mixedRow kkX0_mixedRow (Nat.le_of_ble_eq_true rfl) (c_X0_mixedRow rfl rfl rfl (fun i => by have := hmi i; omega) (fun r119 h119 => ?_))
    subst h119
    show R _ _ _ _ 122 _ [_] _ _ _
    refine R_lstore_n dX0_digest_122 rfl rfl ?_
    refine R_iconst dX0_digest_123 ?_
    refine R_istore_n dX0_digest_124 rfl rfl ?_
    exact loopD _ 0 _ _ rfl (by omega) (by omega) rfl
  have loopB : ∀ (N : Nat) (j s : Int) (o4 : Option Value), (τ 21 0 - j).toNat = N → 0 ≤ j → j ≤ τ 21 0 → fo (fun j h => dgP τ j h) j (τ 21 0) s = (fo (fun j h => dgP τ j h) 0 (τ 21 0) (fo (fun r h => dgR τ r h) 0 3 (31 * (31 * 193 + τ 20 0) + τ 21 0))) → R E GX kX0_digest (d + 3) 42 [some (.ref (eAd E 0)), some (.long (zL (s))), none, some (.int (zI j)), o4] [] τ ζ Q := by
    refine st_ind (fun N ih => ?_)
    intro j s o4 hN hj hj2 hs
    refine R_iload_n dX0_digest_42 rfl ?_
    refine R_aload_n dX0_digest_43 rfl ?_
    refine R_getI 21 fX0_digest_13 rfl rfl dX0_digest_44 ?_
    refine R_icmp_ge (tgt := 91) (by omega) dX0_digest_47 (by decide) (fun c47 => ?_) (fun c47 => ?_)
    · rw [fo_ge (by omega)] at hs
      subst hs
      exact contC _ _
    · have loopB2 : ∀ (N2 : Nat) (p s2 : Int), (τ 20 0 - p).toNat = N2 → 0 ≤ p → p ≤ τ 20 0 → fo (fun p h => 31 * h + τ 3 (j * 10 + p)) p (τ 20 0) s2 = dgP τ j s → R E GX kX0_digest (d + 3) 53 [some (.ref (eAd E 0)), some (.long (zL (s2))), none, some (.int (zI j)), some (.int (zI p))] [] τ ζ Q := by
        refine st_ind (fun N2 ih2 => ?_)
        intro p s2 hN2 hp hp2 hs2
        have hpu1 := hpu (j * 10 + p)
        refine R_iload dX0_digest_53 rfl ?_
        refine R_aload_n dX0_digest_55 rfl ?_
        refine R_getI 20 fX0_digest_7 rfl rfl dX0_digest_56 ?_
        refine R_icmp_ge (tgt := 85) (by omega) dX0_digest_59 (by decide) (fun c59 => ?_) (fun c59 => ?_)
        · refine R_iinc dX0_digest_85 rfl rfl rfl ?_
          refine R_goto (tgt := 42) dX0_digest_88 (by decide) ?_
          rw [fo_ge (by omega)] at hs2
          rw [hs2]
          rw [fo_lt (by omega)] at hs
          exact ih _ (by omega) (j + 1) _ _ rfl (by omega) (by omega) hs
        · refine R_lload_n dX0_digest_62 rfl ?_
          refine R_aload_n dX0_digest_63 rfl ?_
          refine R_getR fX0_digest_23 dX0_digest_64 ?_
          refine R_iload_n dX0_digest_67 rfl ?_
          refine R_iload dX0_digest_68 rfl ?_
          refine R_callS2 (k2 := kX0_pupilCellOf) dX0_digest_70 rfl gX0_digest_X0_pupilCellOf kkX0_pupilCellOf (Nat.le_of_ble_eq_true rfl) (c_X0_pupilCellOf (fun r70 h70 => ?_))
          subst h70
          show R _ _ _ _ 73 _ [_, _, _] _ _ _
          refine R_iald (q := 3) rfl rfl (by omega) rfl dX0_digest_73 ?_
          refine R_i2l (by omega) dX0_digest_74 ?_
          refine R_callS2 (k2 := kX0_mixed) dX0_digest_75 rfl gX0_digest_X0_mixed kkX0_mixed (Nat.le_of_ble_eq_true rfl) (c_X0_mixed (fun r75 h75 => ?_))
          subst h75
          show R _ _ _ _ 78 _ [_] _ _ _
          refine R_lstore_n dX0_digest_78 rfl rfl ?_
          refine R_iinc dX0_digest_79 rfl rfl rfl ?_
          refine R_goto (tgt := 53) dX0_digest_82 (by decide) ?_
          rw [fo_lt (by omega)] at hs2
          exact ih2 _ (by omega) (p + 1) _ rfl (by omega) (by omega) hs2
      refine R_iconst dX0_digest_50 ?_
      refine R_istore dX0_digest_51 rfl rfl ?_
      exact loopB2 _ 0 s rfl (by omega) (by omega) rfl
  have contB : ∀ (a b : Option Value), R E GX kX0_digest (d + 3) 40 [some (.ref (eAd E 0)), some (.long (zL ((fo (fun r h => dgR τ r h) 0 3 (31 * (31 * 193 + τ 20 0) + τ 21 0))))), none, a, b] [] τ ζ Q := by
    intro a b
    refine R_iconst dX0_digest_40 ?_
    refine R_istore_n dX0_digest_41 rfl rfl ?_
    exact loopB _ 0 _ _ rfl (by omega) (by omega) rfl
  have loopA : ∀ (N : Nat) (r s : Int) (o4 : Option Value), (3 - r).toNat = N → 0 ≤ r → r ≤ 3 → fo (fun r h => dgR τ r h) r 3 s = (fo (fun r h => dgR τ r h) 0 3 (31 * (31 * 193 + τ 20 0) + τ 21 0)) → R E GX kX0_digest (d + 3) 22 [some (.ref (eAd E 0)), some (.long (zL (s))), none, some (.int (zI r)), o4] [] τ ζ Q := by
    refine st_ind (fun N ih => ?_)
    intro r s o4 hN hr hr2 hs
    refine R_iload_n dX0_digest_22 rfl ?_
    refine R_iconst dX0_digest_23 ?_
    refine R_icmp_ge (tgt := 40) (by omega) dX0_digest_24 (by decide) (fun c24 => ?_) (fun c24 => ?_)
    · rw [fo_ge (by omega)] at hs
      subst hs
      exact contB _ _
    · refine R_aload_n dX0_digest_27 rfl ?_
      refine R_lload_n dX0_digest_28 rfl ?_
      refine R_iload_n dX0_digest_29 rfl ?_
      refine R_callV2 (k2 := kX0_mixedRound) dX0_digest_30 rfl gX0_digest_X0_mixedRound kkX0_mixedRound rfl rfl (Nat.le_of_ble_eq_true rfl) (c_X0_mixedRound hI (by omega) (fun r30 h30 => ?_))
      subst h30
      show R _ _ _ _ 33 _ [_] _ _ _
      refine R_lstore_n dX0_digest_33 rfl rfl ?_
      refine R_iinc dX0_digest_34 rfl rfl rfl ?_
      refine R_goto (tgt := 22) dX0_digest_37 (by decide) ?_
      rw [fo_lt (by omega)] at hs
      exact ih _ (by omega) (r + 1) _ _ rfl (by omega) (by omega) hs
  refine R_ldc2 193 dX0_digest_0 cnX0_digest_172 rfl ?_
  refine R_aload_n dX0_digest_3 rfl ?_
  refine R_getI 20 fX0_digest_7 rfl rfl dX0_digest_4 ?_
  refine R_i2l (by omega) dX0_digest_7 ?_
  refine R_callS2 (k2 := kX0_mixed) dX0_digest_8 rfl gX0_digest_X0_mixed kkX0_mixed (Nat.le_of_ble_eq_true rfl) (c_X0_mixed (fun r8 h8 => ?_))
  subst h8
  show R _ _ _ _ 11 _ [_] _ _ _
  refine R_aload_n dX0_digest_11 rfl ?_
  refine R_getI 21 fX0_digest_13 rfl rfl dX0_digest_12 ?_
  refine R_i2l (by omega) dX0_digest_15 ?_
  refine R_callS2 (k2 := kX0_mixed) dX0_digest_16 rfl gX0_digest_X0_mixed kkX0_mixed (Nat.le_of_ble_eq_true rfl) (c_X0_mixed (fun r16 h16 => ?_))
  subst h16
  show R _ _ _ _ 19 _ [_] _ _ _
  refine R_lstore_n dX0_digest_19 rfl rfl ?_
  refine R_iconst dX0_digest_20 ?_
  refine R_istore_n dX0_digest_21 rfl rfl ?_
  exact loopA _ 0 _ _ rfl (by omega) (by omega) rfl

theorem R_xxor {E : Ev} {G : Gd} {k : Mt} {d pc : Nat} {L : List (Option Value)} {st : List Value} {τ ζ : Sf} {Q : Option Value → Sf → Sf → Prop} {x y : Int32} (hd : decode k.2.2.1 pc = .ok (.ixor, 1)) (K : R E G k d (pc + 1) L (.int (x ^^^ y) :: st) τ ζ Q) : R E G k d pc L (.int y :: .int x :: st) τ ζ Q := by
  intro p e s m args below meth c H locs ls X
  exact lv_ixor X.1 X.2.1 hd (K p e s m args below meth c H locs ls X)
/-! an order drawn -/
def fac : Nat → Int
  | 0 => 1
  | n + 1 => ((n : Int) + 1) * fac n
theorem fac_pos : ∀ n, 1 ≤ fac n := by
  intro n
  induction n with
  | zero => exact Int.le_refl _
  | succ n ih =>
    have := Int.mul_le_mul (show (1 : Int) ≤ (n : Int) + 1 by omega) ih (by omega) (by omega)
    show 1 ≤ ((n : Int) + 1) * fac n
    omega
theorem fac_le : ∀ n, n ≤ 10 → fac n ≤ 3628800 := by decide +kernel
/-- the place of the free one with so many free ones below it -/
def nth (b : Int → Int) : Nat → Int → Int → Int
  | 0, _, _ => -1
  | k + 1, q, i => if b q = 1 then (if i = 0 then q else nth b k (q + 1) (i - 1)) else nth b k (q + 1) i
theorem nth_S (b : Int → Int) (k : Nat) (q i : Int) : nth b (k + 1) q i = if b q = 1 then (if i = 0 then q else nth b k (q + 1) (i - 1)) else nth b k (q + 1) i := rfl
/-- where there are enough: it is free and it is there -/
theorem nth_ok {b : Int → Int} (hb : ∀ q, b q = 0 ∨ b q = 1) : ∀ (k : Nat) (q i n : Int), 0 ≤ i → n ≤ q + k → i < sm b q n → q ≤ nth b k q i ∧ nth b k q i < n ∧ b (nth b k q i) = 1 := by
  intro k
  induction k with
  | zero =>
    intro q i n hi hn h
    rw [sm_ge (by omega)] at h
    omega
  | succ k ih =>
    intro q i n hi hn h
    by_cases hq : n ≤ q
    · rw [sm_ge hq] at h
      omega
    · rw [sm_lt (by omega)] at h
      rw [nth_S]
      rcases hb q with h0 | h1
      · rw [if_neg (by omega)]
        have := ih (q + 1) i n hi (by omega) (by omega)
        omega
      · rw [if_pos h1]
        by_cases hi0 : i = 0
        · rw [if_pos hi0]
          omega
        · rw [if_neg hi0]
          have := ih (q + 1) (i - 1) n (by omega) (by omega) (by omega)
          omega
def b0 (b : Int → Int) (p : Int) : Int → Int := fun q => if q = p then 0 else b q
theorem b0_01 {b : Int → Int} (hb : ∀ q, b q = 0 ∨ b q = 1) (p : Int) : ∀ q, b0 b p q = 0 ∨ b0 b p q = 1 := by
  intro q
  unfold b0
  split
  · exact Or.inl rfl
  · exact hb q
theorem sm_b0 {b : Int → Int} {p n : Int} (hp : p < n) (h1 : b p = 1) : ∀ a, a ≤ p → sm (b0 b p) a n = sm b a n - 1 := by
  have key : ∀ N : Nat, ∀ a : Int, (p - a).toNat = N → a ≤ p → sm (b0 b p) a n = sm b a n - 1 := by
    refine st_ind (fun N ih => ?_)
    intro a hN ha
    rw [sm_lt (by omega), sm_lt (show a < n by omega)]
    by_cases he : a = p
    · subst he
      have e1 : b0 b a a = 0 := if_pos rfl
      have e2 : sm (b0 b a) (a + 1) n = sm b (a + 1) n := sm_congr _ (fun i h2 h3 => if_neg (by omega))
      rw [e1, e2, h1]
      omega
    · have e1 : b0 b p a = b a := if_neg he
      rw [e1, ih _ (by omega) (a + 1) rfl (by omega)]
      omega
  intro a ha
  exact key _ a rfl ha
/-- the walk: k draws from place a of n on, b the free ones, l what is left of the lot -/
def drN (n : Nat) : Nat → Nat → (Int → Int) → Int → Int → Int
  | 0, _, _, _, last => last
  | k + 1, a, b, l, _ => drN n k (a + 1) (b0 b (nth b 10 0 (l / fac (n - 1 - a)))) (l % fac (n - 1 - a)) (nth b 10 0 (l / fac (n - 1 - a)))
theorem drN_S (n k a : Nat) (b : Int → Int) (l last : Int) : drN n (k + 1) a b l last = drN n k (a + 1) (b0 b (nth b 10 0 (l / fac (n - 1 - a)))) (l % fac (n - 1 - a)) (nth b 10 0 (l / fac (n - 1 - a))) := rfl
def fre (n : Int) : Int → Int := fun q => if 0 ≤ q ∧ q < n then 1 else 0
def fdrawn (τ : Sf) (l i : Int) : Int := if i < 0 ∨ τ 20 0 ≤ i then -101 else if l < 0 ∨ fac (τ 20 0).toNat - 1 < l then -102 else drN (τ 20 0).toNat (i + 1).toNat 0 (fre (τ 20 0)) l (-1)
/-- taking a bit away -/
theorem zI_off {b : Int → Int} (hb : ∀ q, b q = 0 ∨ b q = 1) {p : Int} (hp : 0 ≤ p ∧ p < 10) (h1 : b p = 1) : zI (bsm b 10) &&& (zI (p2 p) ^^^ zI (-1)) = zI (bsm (b0 b p) 10) := by
  have h : ∀ m : Nat, m < 1024 → ∀ q : Nat, q < 10 → m / 2 ^ q % 2 = 1 → zI (m : Int) &&& (zI (p2 (q : Int)) ^^^ zI (-1)) = zI ((m : Int) - p2 (q : Int)) := by decide +kernel
  have hbb := bsm_bd' hb (n := 10) (by omega)
  have hbit := bsm_bit' hb (p := p) (n := 10) hp
  have e10 : p2 10 = 1024 := rfl
  have e2 : p2 p = ((2 ^ p.toNat : Nat) : Int) := by
    unfold p2
    rw [Int.natCast_pow]
    rfl
  have h2 := h (bsm b 10).toNat (by omega) p.toNat (by omega) (by
    rw [h1, e2] at hbit
    have h3 : (((bsm b 10).toNat / 2 ^ p.toNat % 2 : Nat) : Int) = 1 := by
      rw [Int.natCast_emod, Int.natCast_ediv, show (((bsm b 10).toNat : Nat) : Int) = bsm b 10 by omega]
      exact hbit
    omega)
  rw [show (((bsm b 10).toNat : Nat) : Int) = bsm b 10 by omega, show ((p.toNat : Nat) : Int) = p by omega] at h2
  rw [h2]
  congr 1
  have h4 : ∀ N : Nat, ∀ a : Int, (p - a).toNat = N → a ≤ p → sm (fun q => b0 b p q * p2 q) a 10 = sm (fun q => b q * p2 q) a 10 - p2 p := by
    refine st_ind (fun N ih => ?_)
    intro a hN ha
    rw [sm_lt (by omega), sm_lt (show a < 10 by omega)]
    by_cases he : a = p
    · subst he
      have e1 : b0 b a a = 0 := if_pos rfl
      have e3 : sm (fun q => b0 b a q * p2 q) (a + 1) 10 = sm (fun q => b q * p2 q) (a + 1) 10 := sm_congr _ (fun i h2 h3 => by
        show b0 b a i * p2 i = b i * p2 i
        rw [show b0 b a i = b i from if_neg (by omega)])
      rw [e1, e3, h1]
      omega
    · have e1 : b0 b p a = b a := if_neg he
      rw [e1, ih _ (by omega) (a + 1) rfl (by omega)]
      omega
  exact (h4 _ 0 rfl hp.1).symm
theorem bsm_fre {n : Int} (h : 1 ≤ n ∧ n ≤ 10) : bsm (fre n) 10 = p2 n - 1 := by
  rcases (show n = 1 ∨ n = 2 ∨ n = 3 ∨ n = 4 ∨ n = 5 ∨ n = 6 ∨ n = 7 ∨ n = 8 ∨ n = 9 ∨ n = 10 by omega) with rfl | rfl | rfl | rfl | rfl | rfl | rfl | rfl | rfl | rfl <;> decide +kernel
theorem fre_01 (n : Int) : ∀ q, fre n q = 0 ∨ fre n q = 1 := by
  intro q
  unfold fre
  split
  · exact Or.inr rfl
  · exact Or.inl rfl
theorem sm_fre {n : Int} (h : 0 ≤ n) : sm (fre n) 0 n = n := by
  have h1 : sm (fre n) 0 n = sm (fun _ => 1) 0 n := sm_congr 0 (fun i h1 h2 => if_pos ⟨h1, h2⟩)
  have h2 := sm_bd (f := fun _ => 1) (lo := 1) (hi := 1) (b := n) 0 (fun _ _ _ => ⟨Int.le_refl _, Int.le_refl _⟩) h
  omega

set_option maxHeartbeats 4000000 in
set_option maxRecDepth 100000 in
theorem c_X0_factorial {E : Ev} {d : Nat} {τ ζ : Sf} {Q : Option Value → Sf → Sf → Prop} {n : Int} (hn : 0 ≤ n ∧ n ≤ 10) (hQ : ∀ z : Int, z = fac n.toNat → Q (some (.int (zI z))) τ ζ) : C E GX kX0_factorial d [.int (zI n)] τ ζ Q := by
  refine C_of (by decide) rfl rfl ?_
  show R E GX kX0_factorial d 0 [some (.int (zI n)), none, none] [] τ ζ Q
  have loop : ∀ (N : Nat) (i s : Int), (n + 1 - i).toNat = N → 2 ≤ i → (i = 2 ∨ i ≤ n + 1) → i ≤ 11 → s = fac (i - 1).toNat → R E GX kX0_factorial d 4 [some (.int (zI n)), some (.int (zI s)), some (.int (zI i))] [] τ ζ Q := by
    refine st_ind (fun N ih => ?_)
    intro i s hN hi hi2 hi3 hs
    refine R_iload_n dX0_factorial_4 rfl ?_
    refine R_iload_n dX0_factorial_5 rfl ?_
    refine R_icmp_gt (tgt := 19) (by omega) dX0_factorial_6 (by decide) (fun c6 => ?_) (fun c6 => ?_)
    · refine R_iload_n dX0_factorial_19 rfl ?_
      refine R_iret rfl dX0_factorial_20 ?_
      refine hQ _ ?_
      rw [hs]
      by_cases hn2 : n < 2
      · have h2 : i = 2 := by omega
        subst h2
        rcases (show n = 0 ∨ n = 1 by omega) with rfl | rfl <;> rfl
      · rw [show (i - 1).toNat = n.toNat by omega]
    · refine R_iload_n dX0_factorial_9 rfl ?_
      refine R_iload_n dX0_factorial_10 rfl ?_
      refine R_imul dX0_factorial_11 ?_
      refine R_istore_n dX0_factorial_12 rfl rfl ?_
      refine R_iinc dX0_factorial_13 rfl rfl rfl ?_
      refine R_goto (tgt := 4) dX0_factorial_16 (by decide) ?_
      refine ih _ (by omega) (i + 1) _ rfl (by omega) (by omega) (by omega) ?_
      rw [hs, show (i + 1 - 1).toNat = (i - 1).toNat + 1 by omega]
      show _ = (((i - 1).toNat : Int) + 1) * fac (i - 1).toNat
      rw [show (((i - 1).toNat : Int)) + 1 = i by omega, Int.mul_comm]
  refine R_iconst dX0_factorial_0 ?_
  refine R_istore_n dX0_factorial_1 rfl rfl ?_
  refine R_iconst dX0_factorial_2 ?_
  refine R_istore_n dX0_factorial_3 rfl rfl ?_
  exact loop _ 2 1 rfl (by omega) (by omega) (by omega) rfl

set_option maxHeartbeats 4000000 in
set_option maxRecDepth 100000 in
theorem c_X0_bitOf {E : Ev} {d : Nat} {τ ζ : Sf} {Q : Option Value → Sf → Sf → Prop} {b : Int → Int} {i : Int} (hb : ∀ q, b q = 0 ∨ b q = 1) (hi : 0 ≤ i ∧ i < 4000000) (hQ : ∀ z : Int, z = nth b 10 0 i → Q (some (.int (zI z))) τ ζ) : C E GX kX0_bitOf d [.int (zI ((bsm b 10))), .int (zI i)] τ ζ Q := by
  refine C_of (by decide) rfl rfl ?_
  show R E GX kX0_bitOf d 0 [some (.int (zI ((bsm b 10)))), some (.int (zI i)), none, none] [] τ ζ Q
  have hbb := bsm_bd' hb (n := 10) (by omega)
  have e10 : p2 10 = 1024 := rfl
  have loop : ∀ (N : Nat) (q s : Int), (N : Int) = 10 - q → 0 ≤ q → 0 ≤ s → s ≤ q → nth b N q (i - s) = nth b 10 0 i → R E GX kX0_bitOf d 4 [some (.int (zI ((bsm b 10)))), some (.int (zI i)), some (.int (zI s)), some (.int (zI q))] [] τ ζ Q := by
    intro N
    induction N with
    | zero =>
      intro q s hN hq hs0 hs1 hs
      refine R_iload_n dX0_bitOf_4 rfl ?_
      refine R_bipush dX0_bitOf_5 (by decide) ?_
      refine R_icmp_ge (tgt := 35) (by omega) dX0_bitOf_7 (by decide) (fun c7 => ?_) (fun c7 => absurd c7 (by omega))
      refine R_iconst dX0_bitOf_35 ?_
      refine R_iret rfl dX0_bitOf_36 ?_
      exact hQ _ hs
    | succ N ih =>
      intro q s hN hq hs0 hs1 hs
      have hbit := bsm_bit' hb (p := q) (n := 10) (by omega)
      have h01 := hb q
      rw [nth_S] at hs
      refine R_iload_n dX0_bitOf_4 rfl ?_
      refine R_bipush dX0_bitOf_5 (by decide) ?_
      refine R_icmp_ge (tgt := 35) (by omega) dX0_bitOf_7 (by decide) (fun c7 => absurd c7 (by omega)) (fun c7 => ?_)
      have hdv := Int.ediv_nonneg (a := (bsm b 10)) (b := p2 q) (by omega) (by have := p2_pos q; omega)
      refine R_iload_n dX0_bitOf_10 rfl ?_
      refine R_iload_n dX0_bitOf_11 rfl ?_
      refine R_ishr _ (zI_shr (by omega) (by omega)) dX0_bitOf_12 ?_
      refine R_iconst dX0_bitOf_13 ?_
      refine R_iand _ (zI_and1 hdv) dX0_bitOf_14 ?_
      refine R_iconst dX0_bitOf_15 ?_
      refine R_icmp_ne (tgt := 29) (by omega) dX0_bitOf_16 (by decide) (fun c16 => ?_) (fun c16 => ?_)
      · refine R_iinc dX0_bitOf_29 rfl rfl rfl ?_
        refine R_goto (tgt := 4) dX0_bitOf_32 (by decide) ?_
        refine ih (q + 1) _ (by omega) (by omega) (by omega) (by omega) ?_
        first
        | (rw [if_neg (show ¬ b q = 1 by omega)] at hs
           exact hs)
        | (rw [if_pos (show b q = 1 by omega), if_neg (by omega)] at hs
           rw [show i - (s + 1) = i - s - 1 by omega]
           exact hs)
      · refine R_iload_n dX0_bitOf_19 rfl ?_
        refine R_iload_n dX0_bitOf_20 rfl ?_
        refine R_icmp_ne (tgt := 26) (by omega) dX0_bitOf_21 (by decide) (fun c21 => ?_) (fun c21 => ?_)
        · refine R_iinc dX0_bitOf_26 rfl rfl rfl ?_
          refine R_iinc dX0_bitOf_29 rfl rfl rfl ?_
          refine R_goto (tgt := 4) dX0_bitOf_32 (by decide) ?_
          refine ih (q + 1) _ (by omega) (by omega) (by omega) (by omega) ?_
          first
          | (rw [if_neg (show ¬ b q = 1 by omega)] at hs
             exact hs)
          | (rw [if_pos (show b q = 1 by omega), if_neg (by omega)] at hs
             rw [show i - (s + 1) = i - s - 1 by omega]
             exact hs)
        · refine R_iload_n dX0_bitOf_24 rfl ?_
          refine R_iret rfl dX0_bitOf_25 ?_
          rw [if_pos (show b q = 1 by omega), if_pos (by omega)] at hs
          exact hQ _ hs
  refine R_iconst dX0_bitOf_0 ?_
  refine R_istore_n dX0_bitOf_1 rfl rfl ?_
  refine R_iconst dX0_bitOf_2 ?_
  refine R_istore_n dX0_bitOf_3 rfl rfl ?_
  exact loop 10 0 0 (by omega) (by omega) (by omega) (by omega) (by rw [Int.sub_zero])

set_option maxHeartbeats 4000000 in
set_option maxRecDepth 100000 in
theorem c_X0_drawn {E : Ev} {d : Nat} {τ ζ : Sf} {Q : Option Value → Sf → Sf → Prop} {l0 i : Int} (hI : InvX τ) (hrg : (-2147483648 ≤ l0 ∧ l0 < 2147483648) ∧ (-2147483648 ≤ i ∧ i < 2147483648)) (hQ : ∀ (z : Int) (ζ' : Sf), z = fdrawn τ l0 i → Q (some (.int (zI z))) τ ζ') : C E GX kX0_drawn (d + 2) [.ref (eAd E 0), .int (zI l0), .int (zI i)] τ ζ Q := by
  refine C_of (by decide) rfl rfl ?_
  show R E GX kX0_drawn (d + 2) 0 [some (.ref (eAd E 0)), some (.int (zI l0)), some (.int (zI i)), none, none, none, none, none] [] τ ζ Q
  obtain ⟨hn, hm, hmk, hys, hpu, hcu, hpl, hwe, hpr, hmi, hwo, hco, hch⟩ := id hI
  have hfn := fac_le (τ 20 0).toNat (by omega)
  have hfn1 := fac_pos (τ 20 0).toNat
  refine R_aload_n dX0_drawn_0 rfl ?_
  refine R_iload_n dX0_drawn_1 rfl ?_
  refine R_callV1 (k2 := kX0_isPlayer) dX0_drawn_2 rfl gX0_drawn_X0_isPlayer kkX0_isPlayer rfl rfl (Nat.le_of_ble_eq_true rfl) (c_X0_isPlayer hI (by omega) (fun b2 => ?_) (fun b2 => ?_))
  · show R _ _ _ _ 5 _ [_] _ _ _
    refine R_if_ne (tgt := 11) (by decide) dX0_drawn_5 (by decide) (fun _ => ?_) (fun h => absurd h (by decide))
    refine R_iload_n dX0_drawn_11 rfl ?_
    refine R_iconst dX0_drawn_12 ?_
    refine R_aload_n dX0_drawn_13 rfl ?_
    refine R_getI 20 fX0_drawn_7 rfl rfl dX0_drawn_14 ?_
    refine R_callS1 (k2 := kX0_factorial) dX0_drawn_17 rfl gX0_drawn_X0_factorial kkX0_factorial (Nat.le_of_ble_eq_true rfl) (c_X0_factorial (by omega) (fun r17 h17 => ?_))
    subst h17
    show R _ _ _ _ 20 _ [_, _, _] _ _ _
    refine R_iconst dX0_drawn_20 ?_
    refine R_isub dX0_drawn_21 ?_
    refine R_callS3 (k2 := kX0_isWithin) dX0_drawn_22 rfl gX0_drawn_X0_isWithin kkX0_isWithin (Nat.le_of_ble_eq_true rfl) (c_X0_isWithin (by omega) (fun b22 => ?_) (fun b22 => ?_))
    · show R _ _ _ _ 25 _ [_] _ _ _
      refine R_if_ne (tgt := 31) (by decide) dX0_drawn_25 (by decide) (fun _ => ?_) (fun h => absurd h (by decide))
      have loop : ∀ (N a : Nat) (b : Int → Int) (l pl : Int) (o7 : Option Value), (N : Int) = i + 1 - a → (∀ q, b q = 0 ∨ b q = 1) → sm b 0 10 = τ 20 0 - a → 0 ≤ l → l < fac ((τ 20 0).toNat - a) → drN (τ 20 0).toNat N a b l pl = drN (τ 20 0).toNat (i + 1).toNat 0 (fre (τ 20 0)) l0 (-1) → R E GX kX0_drawn (d + 2) 49 [some (.ref (eAd E 0)), some (.int (zI l0)), some (.int (zI i)), some (.int (zI ((bsm b 10)))), some (.int (zI l)), some (.int (zI pl)), some (.int (zI ((a : Int)))), o7] [] τ ζ Q := by
        intro N
        induction N with
        | zero =>
          intro a b l pl o7 hN hb hsm hl0 hl hd
          refine R_iload dX0_drawn_49 rfl ?_
          refine R_iload_n dX0_drawn_51 rfl ?_
          refine R_icmp_gt (tgt := 110) (by omega) dX0_drawn_52 (by decide) (fun c52 => ?_) (fun c52 => absurd c52 (by omega))
          refine R_iload dX0_drawn_110 rfl ?_
          refine R_iret rfl dX0_drawn_112 ?_
          exact hQ _ _ (by unfold fdrawn; rw [if_neg (by omega), if_neg (by omega)]; exact hd)
        | succ N ih =>
          intro a b l pl o7 hN hb hsm hl0 hl hd
          have hbb := bsm_bd' hb (n := 10) (by omega)
          have e10 : p2 10 = 1024 := rfl
          have hfp := fac_pos ((τ 20 0).toNat - 1 - a)
          have hfl := fac_le ((τ 20 0).toNat - 1 - a) (by omega)
          have hfl2 := fac_le ((τ 20 0).toNat - a) (by omega)
          have hfS : fac ((τ 20 0).toNat - a) = (τ 20 0 - a) * fac ((τ 20 0).toNat - 1 - a) := by
            rw [show (τ 20 0).toNat - a = (τ 20 0).toNat - 1 - a + 1 by omega]
            show ((((τ 20 0).toNat - 1 - a : Nat) : Int) + 1) * _ = _
            rw [show (((τ 20 0).toNat - 1 - a : Nat) : Int) + 1 = τ 20 0 - a by omega]
          have hdv : l / fac ((τ 20 0).toNat - 1 - a) < τ 20 0 - a := by
            rw [hfS] at hl
            exact Int.ediv_lt_of_lt_mul (by omega) hl
          have hdv0 : 0 ≤ l / fac ((τ 20 0).toNat - 1 - a) := Int.ediv_nonneg hl0 (by omega)
          have hmd0 : 0 ≤ l % fac ((τ 20 0).toNat - 1 - a) := Int.emod_nonneg _ (by omega)
          have hmd1 : l % fac ((τ 20 0).toNat - 1 - a) < fac ((τ 20 0).toNat - 1 - a) := Int.emod_lt_of_pos _ (by omega)
          have hnt := nth_ok hb 10 0 (l / fac ((τ 20 0).toNat - 1 - a)) 10 hdv0 (by omega) (by omega)
          rw [drN_S] at hd
          refine R_iload dX0_drawn_49 rfl ?_
          refine R_iload_n dX0_drawn_51 rfl ?_
          refine R_icmp_gt (tgt := 110) (by omega) dX0_drawn_52 (by decide) (fun c52 => absurd c52 (by omega)) (fun c52 => ?_)
          refine R_aload_n dX0_drawn_55 rfl ?_
          refine R_getI 20 fX0_drawn_7 rfl rfl dX0_drawn_56 ?_
          refine R_iconst dX0_drawn_59 ?_
          refine R_isub dX0_drawn_60 ?_
          refine R_iload dX0_drawn_61 rfl ?_
          refine R_isub dX0_drawn_63 ?_
          refine R_callS1 (k2 := kX0_factorial) dX0_drawn_64 rfl gX0_drawn_X0_factorial kkX0_factorial (Nat.le_of_ble_eq_true rfl) (c_X0_factorial (by omega) (fun r64 h64 => ?_))
          subst h64
          show R _ _ _ _ 67 _ [_] _ _ _
          rw [show (τ 20 0 - 1 - (a : Int)).toNat = (τ 20 0).toNat - 1 - a by omega]
          refine R_istore dX0_drawn_67 rfl rfl ?_
          refine R_iload dX0_drawn_69 rfl ?_
          refine R_iconst dX0_drawn_71 ?_
          refine R_icmp_ge (tgt := 77) (by omega) dX0_drawn_72 (by decide) (fun c72 => ?_) (fun c72 => absurd c72 (by omega))
          refine R_iload_n dX0_drawn_77 rfl ?_
          refine R_iload dX0_drawn_78 rfl ?_
          refine R_iload dX0_drawn_80 rfl ?_
          refine R_idiv (by omega) dX0_drawn_82 ?_
          refine R_callS2 (k2 := kX0_bitOf) dX0_drawn_83 rfl gX0_drawn_X0_bitOf kkX0_bitOf (Nat.le_of_ble_eq_true rfl) (c_X0_bitOf hb (by omega) (fun r83 h83 => ?_))
          subst h83
          show R _ _ _ _ 86 _ [_] _ _ _
          refine R_istore dX0_drawn_86 rfl rfl ?_
          refine R_iload dX0_drawn_88 rfl ?_
          refine R_iload dX0_drawn_90 rfl ?_
          refine R_irem (by omega) dX0_drawn_92 ?_
          refine R_istore dX0_drawn_93 rfl rfl ?_
          refine R_iload_n dX0_drawn_95 rfl ?_
          refine R_iconst dX0_drawn_96 ?_
          refine R_iload dX0_drawn_97 rfl ?_
          refine R_ishl _ (zI_shl1 (by omega)) dX0_drawn_99 ?_
          refine R_iconst dX0_drawn_100 ?_
          refine R_xxor dX0_drawn_101 ?_
          refine R_iand _ (zI_off hb (by omega) hnt.2.2) dX0_drawn_102 ?_
          refine R_istore_n dX0_drawn_103 rfl rfl ?_
          refine R_iinc dX0_drawn_104 rfl rfl rfl ?_
          refine R_goto (tgt := 49) dX0_drawn_107 (by decide) ?_
          have e := ih (a + 1) (b0 b (nth b 10 0 (l / fac ((τ 20 0).toNat - 1 - a)))) (l % fac ((τ 20 0).toNat - 1 - a)) (nth b 10 0 (l / fac ((τ 20 0).toNat - 1 - a))) (some (.int (zI (fac ((τ 20 0).toNat - 1 - a))))) (by omega) (b0_01 hb _) (by rw [sm_b0 (by omega) hnt.2.2 0 (by omega)]; omega) hmd0 (by rw [show (τ 20 0).toNat - (a + 1) = (τ 20 0).toNat - 1 - a by omega]; exact hmd1) hd
          rw [show (((a + 1 : Nat)) : Int) = (a : Int) + 1 by omega] at e
          exact e
      refine R_iconst dX0_drawn_31 ?_
      refine R_aload_n dX0_drawn_32 rfl ?_
      refine R_getI 20 fX0_drawn_7 rfl rfl dX0_drawn_33 ?_
      refine R_ishl _ (zI_shl1 (by omega)) dX0_drawn_36 ?_
      refine R_iconst dX0_drawn_37 ?_
      refine R_isub dX0_drawn_38 ?_
      refine R_istore_n dX0_drawn_39 rfl rfl ?_
      refine R_iload_n dX0_drawn_40 rfl ?_
      refine R_istore dX0_drawn_41 rfl rfl ?_
      refine R_iconst dX0_drawn_43 ?_
      refine R_istore dX0_drawn_44 rfl rfl ?_
      refine R_iconst dX0_drawn_46 ?_
      refine R_istore dX0_drawn_47 rfl rfl ?_
      have hbf := bsm_fre (n := τ 20 0) (by omega)
      rw [← hbf]
      have hsf : sm (fre (τ 20 0)) 0 10 = τ 20 0 := by
        have h1 := sm_fre (n := τ 20 0) (by omega)
        have h2 : ∀ k : Nat, sm (fre (τ 20 0)) 0 (τ 20 0 + k) = τ 20 0 := by
          intro k
          induction k with
          | zero => rw [show τ 20 0 + ((0 : Nat) : Int) = τ 20 0 by omega]; exact h1
          | succ k ih =>
            rw [show τ 20 0 + ((k + 1 : Nat) : Int) = τ 20 0 + k + 1 by omega, sm_last 0 (by omega), ih]
            have : fre (τ 20 0) (τ 20 0 + k) = 0 := if_neg (by omega)
            omega
        have h3 := h2 (10 - τ 20 0).toNat
        rwa [show τ 20 0 + (((10 - τ 20 0).toNat : Nat) : Int) = 10 by omega] at h3
      exact loop (i + 1).toNat 0 (fre (τ 20 0)) l0 (-1) _ (by omega) (fre_01 _) (by rw [hsf]; omega) (by omega) (by rw [Nat.sub_zero]; omega) rfl
    · show R _ _ _ _ 25 _ [_] _ _ _
      refine R_if_ne (tgt := 31) (by decide) dX0_drawn_25 (by decide) (fun h => absurd h (by decide)) (fun _ => ?_)
      refine R_bipush dX0_drawn_28 (by decide) ?_
      refine R_iret rfl dX0_drawn_30 ?_
      exact hQ _ _ (by unfold fdrawn; first | rw [if_pos (by omega)] | rw [if_neg (by omega), if_pos (by omega)] | rw [if_neg (by omega), if_neg (by omega), if_pos (by omega)] | rw [if_neg (by omega), if_neg (by omega), if_neg (by omega)] | rw [if_neg (by omega), if_neg (by omega)] | rw [if_neg (by omega)])
  · show R _ _ _ _ 5 _ [_] _ _ _
    refine R_if_ne (tgt := 11) (by decide) dX0_drawn_5 (by decide) (fun h => absurd h (by decide)) (fun _ => ?_)
    refine R_bipush dX0_drawn_8 (by decide) ?_
    refine R_iret rfl dX0_drawn_10 ?_
    exact hQ _ _ (by unfold fdrawn; first | rw [if_pos (by omega)] | rw [if_neg (by omega), if_pos (by omega)] | rw [if_neg (by omega), if_neg (by omega), if_pos (by omega)] | rw [if_neg (by omega), if_neg (by omega), if_neg (by omega)] | rw [if_neg (by omega), if_neg (by omega)] | rw [if_neg (by omega)])

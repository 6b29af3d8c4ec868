/-! how large scores are -/
theorem su_cn {v : Int → Int} (hv : Mk v) : ∀ n : Nat, 0 ≤ su v n ∧ su v n ≤ 100 * cn v n := by
  intro n
  induction n with
  | zero =>
    have h1 : su v ((0 : Nat) : Int) = 0 := sm_ge (by omega)
    have h2 : cn v ((0 : Nat) : Int) = 0 := sm_ge (by omega)
    omega
  | succ n ih =>
    rw [show (((n + 1 : Nat)) : Int) = (n : Int) + 1 by omega, cn_S (by omega), su_S (by omega)]
    have := hv n
    split <;> omega
theorem su_cn' {v : Int → Int} (hv : Mk v) {J : Int} (h : 0 ≤ J) : 0 ≤ su v J ∧ su v J ≤ 100 * cn v J := by
  have := su_cn hv J.toNat
  rwa [show ((J.toNat : Nat) : Int) = J by omega] at this
theorem yn_cn {v y : Int → Int} {J : Int} (h : 0 ≤ J) (hy : ∀ j, 0 ≤ y j ∧ y j ≤ 1) : 0 ≤ yn v y J ∧ yn v y J ≤ cn v J := by
  refine ⟨sm_nonneg 0 (fun i _ _ => ?_), sm_le 0 (fun i _ _ => ?_)⟩
  · have := hy i
    show 0 ≤ ite _ _ _
    split <;> omega
  · have := hy i
    show ite _ _ _ ≤ ite _ _ _
    split <;> omega
theorem prs_bd {V : Int → Int → Int} {n J p : Int} (hn : 0 ≤ n) : 0 ≤ prs V n J p ∧ prs V n J p ≤ 2 * n := by
  have := sm_bd (f := fun q => if q = p ∨ cn (V q) J = 0 then 0 else 1 + dl (V p) (V q) J) (lo := 0) (hi := 2) (b := n) 0 (fun q _ _ => by
    have : -1 ≤ dl (V p) (V q) J ∧ dl (V p) (V q) J ≤ 1 := sg_bd _
    show 0 ≤ ite _ _ _ ∧ ite _ _ _ ≤ 2
    split <;> omega) hn
  unfold prs
  omega
theorem c7 {c : Int} (h : 1 ≤ c ∧ c ≤ 7) : c = 1 ∨ c = 2 ∨ c = 3 ∨ c = 4 ∨ c = 5 ∨ c = 6 ∨ c = 7 := by omega
theorem div_bd {c S A : Int} (h : 1 ≤ c ∧ c ≤ 7) (hS : 0 ≤ S ∧ S ≤ A * c) : 0 ≤ 176400 / c * S ∧ 176400 / c * S ≤ 176400 * A := by
  rcases c7 h with rfl | rfl | rfl | rfl | rfl | rfl | rfl <;> omega
theorem div_bd2 {c S A : Int} (h : 1 ≤ c ∧ c ≤ 7) (hS : 0 ≤ S ∧ S ≤ A * c * c) : 0 ≤ 176400 / (c * c) * S ∧ 176400 / (c * c) * S ≤ 176400 * A := by
  rcases c7 h with rfl | rfl | rfl | rfl | rfl | rfl | rfl <;> omega
theorem ctf_bd {v : Int → Int} {cu J : Int} (hcu : 0 ≤ cu) (hc : 1 ≤ cn v J) : 0 ≤ ctf v cu J ∧ 2 * ctf v cu J < cn v J := by
  unfold ctf
  split <;> omega
theorem plf_bd {v : Int → Int} {pl J i : Int} (hv : Mk v) (hJ : 0 ≤ J) (hpl : 1 ≤ pl ∧ pl ≤ 50) (hi : 0 ≤ i ∧ i < cn v J) : 0 ≤ plf v pl J i ∧ plf v pl J i ≤ 100 * cn v J := by
  have h1 := su_cn' hv hJ
  have h2 := (so_srt' hv hJ).2.2.2 i hi.1 hi.2
  have h3 := Int.mul_nonneg (show 0 ≤ cn v J by omega) (show 0 ≤ pl by omega)
  have h4 := Int.mul_nonneg (show 0 ≤ cn v J by omega) (show 0 ≤ so v J i by omega)
  have h5 := Int.mul_le_mul_of_nonneg_left (show so v J i ≤ 100 by omega) (show 0 ≤ cn v J by omega)
  unfold plf
  omega
theorem sc_bd {V Y : Int → Int → Int} {cu pl n J w p : Int} (hV : ∀ q, Mk (V q)) (hY : ∀ q j, 0 ≤ Y q j ∧ Y q j ≤ 1) (hcu : 0 ≤ cu) (hpl : 1 ≤ pl ∧ pl ≤ 50) (hn : 0 ≤ n ∧ n ≤ 10) (hJ : 0 ≤ J ∧ J ≤ 7) (hw : 0 ≤ w ∧ w ≤ 5) : (cn (V p) J = 0 ∧ sc V Y cu pl n J w p = -1) ∨ (cn (V p) J ≠ 0 ∧ 0 ≤ sc V Y cu pl n J w p ∧ sc V Y cu pl n J w p ≤ 17640000) := by
  by_cases h : cn (V p) J = 0
  · exact Or.inl ⟨h, sc_n h w⟩
  · refine Or.inr ⟨h, ?_⟩
    have hc := cn_bd (v := V p) hJ.1
    rcases (show w = 0 ∨ w = 1 ∨ w = 2 ∨ w = 3 ∨ w = 4 ∨ w = 5 by omega) with rfl | rfl | rfl | rfl | rfl | rfl
    · rw [sc_0 h]
      have := su_cn' (hV p) hJ.1
      have := div_bd (c := cn (V p) J) (S := su (V p) J) (A := 100) (by omega) (by omega)
      omega
    · rw [sc_1 h]
      have hk := ctf_bd (v := V p) (J := J) hcu (by omega)
      have hs := sm_bd (f := so (V p) J) (lo := 0) (hi := 100) (b := cn (V p) J - ctf (V p) cu J) (ctf (V p) cu J) (fun x h1 h2 => by have := (so_srt' (hV p) hJ.1).2.2.2 x (by omega) (by omega); omega) (by omega)
      have := div_bd (c := cn (V p) J - 2 * ctf (V p) cu J) (S := sm (so (V p) J) (ctf (V p) cu J) (cn (V p) J - ctf (V p) cu J)) (A := 100) (by omega) (by omega)
      omega
    · rw [sc_2 h]
      have h1 := (so_srt' (hV p) hJ.1).2.2.2 ((cn (V p) J - 1) / 2) (by omega) (by omega)
      have h2 := (so_srt' (hV p) hJ.1).2.2.2 (cn (V p) J / 2) (by omega) (by omega)
      omega
    · rw [sc_3 h]
      have := yn_cn (v := V p) (y := Y p) hJ.1 (hY p)
      have := div_bd (c := cn (V p) J) (S := yn (V p) (Y p) J) (A := 1) (by omega) (by omega)
      omega
    · rw [sc_4 h]
      have := prs_bd (V := V) (J := J) (p := p) hn.1
      omega
    · rw [sc_5 h]
      have hs := sm_bd (f := plf (V p) pl J) (lo := 0) (hi := 100 * cn (V p) J) (b := cn (V p) J) 0 (fun x h1 h2 => plf_bd (hV p) hJ.1 hpl ⟨h1, h2⟩) (by omega)
      rw [Int.sub_zero] at hs
      have := div_bd2 (c := cn (V p) J) (S := sm (plf (V p) pl J) 0 (cn (V p) J)) (A := 100) (by omega) (by omega)
      omega
theorem scX_bd {τ : Sf} {r w p : Int} (hI : InvX τ) (hw : 0 ≤ w ∧ w ≤ 5) : (cn (VV τ r p) (τ 21 0) = 0 ∧ scX τ r w p = -1) ∨ (cn (VV τ r p) (τ 21 0) ≠ 0 ∧ 0 ≤ scX τ r w p ∧ scX τ r w p ≤ 17640000) := by
  obtain ⟨hn, hm, hmk, hys, hpu, hcu, hpl, hwe, hpr, hmi, hwo, hco, hch⟩ := id hI
  exact sc_bd (fun q => VV_mk hI r q) (fun q j => by have := hys ((r * 7 + j) * 10 + q); show 0 ≤ τ 2 _ ∧ τ 2 _ ≤ 1; omega) hcu.1 hpl (by omega) (by omega) hw
/-! bits -/
def p2 (q : Int) : Int := (2 : Int) ^ q.toNat
theorem p2_0 : p2 0 = 1 := rfl
theorem p2_S {q : Int} (h : 0 ≤ q) : p2 (q + 1) = 2 * p2 q := by
  unfold p2
  rw [show (q + 1).toNat = q.toNat + 1 by omega, Int.pow_succ, Int.mul_comm]
theorem p2_pos (q : Int) : 1 ≤ p2 q := by
  unfold p2
  have : (0 : Int) < 2 ^ q.toNat := Int.pow_pos (by omega)
  omega
theorem p2_10 {q : Int} (h : 0 ≤ q ∧ q ≤ 12) : p2 q ≤ 4096 := by
  rcases (show q = 0 ∨ q = 1 ∨ q = 2 ∨ q = 3 ∨ q = 4 ∨ q = 5 ∨ q = 6 ∨ q = 7 ∨ q = 8 ∨ q = 9 ∨ q = 10 ∨ q = 11 ∨ q = 12 by omega) with rfl | rfl | rfl | rfl | rfl | rfl | rfl | rfl | rfl | rfl | rfl | rfl | rfl <;> decide
def bsm (b : Int → Int) (n : Int) : Int := sm (fun q => b q * p2 q) 0 n
theorem bsm_S {b : Int → Int} {n : Int} (h : 0 ≤ n) : bsm b (n + 1) = bsm b n + b n * p2 n := sm_last 0 h
theorem bsm_bd {b : Int → Int} (hb : ∀ q, b q = 0 ∨ b q = 1) : ∀ n : Nat, 0 ≤ bsm b n ∧ bsm b n < p2 n := by
  intro n
  induction n with
  | zero =>
    have : bsm b ((0 : Nat) : Int) = 0 := sm_ge (by omega)
    rw [this]
    exact ⟨by omega, by decide⟩
  | succ n ih =>
    rw [show (((n + 1 : Nat)) : Int) = (n : Int) + 1 by omega, bsm_S (by omega), p2_S (by omega)]
    rcases hb n with h | h <;> rw [h] <;> omega
theorem bsm_bd' {b : Int → Int} (hb : ∀ q, b q = 0 ∨ b q = 1) {n : Int} (h : 0 ≤ n) : 0 ≤ bsm b n ∧ bsm b n < p2 n := by
  have := bsm_bd hb n.toNat
  rwa [show ((n.toNat : Nat) : Int) = n by omega] at this
theorem p2_add {p k : Int} (hp : 0 ≤ p) (hk : 0 ≤ k) : p2 (p + k) = p2 k * p2 p := by
  unfold p2
  rw [show (p + k).toNat = k.toNat + p.toNat by omega, Int.pow_add]
theorem bsm_bit {b : Int → Int} (hb : ∀ q, b q = 0 ∨ b q = 1) {p : Int} (hp : 0 ≤ p) : ∀ k : Nat, bsm b (p + 1 + k) / p2 p % 2 = b p := by
  intro k
  have hpp := p2_pos p
  induction k with
  | zero =>
    rw [show p + 1 + ((0 : Nat) : Int) = p + 1 by omega, bsm_S hp, Int.add_mul_ediv_right _ _ (by omega), Int.ediv_eq_zero_of_lt (bsm_bd' hb hp).1 (bsm_bd' hb hp).2]
    rcases hb p with h | h <;> rw [h] <;> rfl
  | succ k ih =>
    rw [show p + 1 + ((k + 1 : Nat) : Int) = p + 1 + k + 1 by omega, bsm_S (by omega), show p + 1 + (k : Int) = p + ((k : Int) + 1) by omega, p2_add hp (by omega), ← Int.mul_assoc, Int.add_mul_ediv_right _ _ (by omega), p2_S (by omega), show p + ((k : Int) + 1) = p + 1 + k by omega]
    rcases hb (p + 1 + k) with h | h <;> rw [h] <;> omega
theorem bsm_bit' {b : Int → Int} (hb : ∀ q, b q = 0 ∨ b q = 1) {p n : Int} (hp : 0 ≤ p ∧ p < n) : bsm b n / p2 p % 2 = b p := by
  have := bsm_bit hb hp.1 (n - p - 1).toNat
  rwa [show p + 1 + (((n - p - 1).toNat : Nat) : Int) = n by omega] at this
theorem zI_nat (n : Nat) : zI (n : Int) = nI n := Int32.ofInt_eq_ofNat
theorem zI_and (a b : Nat) : zI (a : Int) &&& zI (b : Int) = zI ((a &&& b : Nat) : Int) := by
  apply Int32.toBitVec_inj.mp
  show BitVec.ofInt 32 (a : Int) &&& BitVec.ofInt 32 (b : Int) = BitVec.ofInt 32 ((a &&& b : Nat) : Int)
  rw [BitVec.ofInt_natCast, BitVec.ofInt_natCast, BitVec.ofInt_natCast, BitVec.ofNat_and]
theorem zI_or (a b : Nat) : zI (a : Int) ||| zI (b : Int) = zI ((a ||| b : Nat) : Int) := by
  apply Int32.toBitVec_inj.mp
  show BitVec.ofInt 32 (a : Int) ||| BitVec.ofInt 32 (b : Int) = BitVec.ofInt 32 ((a ||| b : Nat) : Int)
  rw [BitVec.ofInt_natCast, BitVec.ofInt_natCast, BitVec.ofInt_natCast, BitVec.ofNat_or]
theorem zI_xor (a b : Nat) : zI (a : Int) ^^^ zI (b : Int) = zI ((a ^^^ b : Nat) : Int) := by
  apply Int32.toBitVec_inj.mp
  show BitVec.ofInt 32 (a : Int) ^^^ BitVec.ofInt 32 (b : Int) = BitVec.ofInt 32 ((a ^^^ b : Nat) : Int)
  rw [BitVec.ofInt_natCast, BitVec.ofInt_natCast, BitVec.ofInt_natCast, BitVec.ofNat_xor]
theorem zI_and1 {x : Int} (h : 0 ≤ x) : zI x &&& zI 1 = zI (x % 2) := by
  obtain ⟨n, rfl⟩ : ∃ n : Nat, x = n := ⟨x.toNat, by omega⟩
  rw [show (1 : Int) = ((1 : Nat) : Int) from rfl, zI_and, Nat.and_one_is_mod]
  rfl
theorem zI_shl1 {p : Int} (h : 0 ≤ p ∧ p ≤ 11) : zI 1 <<< (zI p &&& 31) = zI (p2 p) := by
  have h1 : ∀ n : Nat, n < 12 → zI 1 <<< (zI (n : Int) &&& 31) = zI (p2 (n : Int)) := by decide +kernel
  have := h1 p.toNat (by omega)
  rwa [show ((p.toNat : Nat) : Int) = p by omega] at this
theorem zI_shr {x p : Int} (hx : 0 ≤ x ∧ x < 2147483648) (h : 0 ≤ p ∧ p ≤ 11) : zI x >>> (zI p &&& 31) = zI (x / p2 p) := by
  have h1 : ∀ n : Nat, n < 12 → ((zI (n : Int) &&& 31).toBitVec.smod 32).toNat = n := by decide +kernel
  have h2 := h1 p.toNat (by omega)
  rw [show ((p.toNat : Nat) : Int) = p by omega] at h2
  have h3 := pk_shr (zI x) (zI p &&& 31) p.toNat h2
  rw [zI_toInt (by omega), Int.shiftRight_eq_div_pow] at h3
  have h4 : ((2 ^ p.toNat : Nat) : Int) = p2 p := by
    unfold p2
    rw [Int.natCast_pow]
    rfl
  rw [h4] at h3
  have h5 := p2_pos p
  have h6 : x / p2 p ≤ x := Int.ediv_le_self _ hx.1
  have h7 : 0 ≤ x / p2 p := Int.ediv_nonneg hx.1 (by omega)
  apply Int32.toInt_inj.mp
  rw [h3, zI_toInt (by omega)]
theorem zI_or2 {x p : Int} (hx : 0 ≤ x ∧ x < p2 p) (hp : 0 ≤ p) : zI x ||| zI (p2 p) = zI (x + p2 p) := by
  obtain ⟨n, rfl⟩ : ∃ n : Nat, x = n := ⟨x.toNat, by omega⟩
  have h1 : p2 p = ((2 ^ p.toNat : Nat) : Int) := by
    unfold p2
    rw [Int.natCast_pow]
    rfl
  rw [h1] at hx ⊢
  rw [zI_or]
  congr 1
  have h2 : n < 2 ^ p.toNat := by omega
  have h3 := Nat.two_pow_add_eq_or_of_lt h2 1
  rw [Nat.mul_one] at h3
  rw [Nat.or_comm, ← h3]
  omega
/-- 1 if p passes for k, else 0 -/
def psb (f : Int → Int) (n k p : Int) : Int := if f p ≠ -1 ∧ plc f n p ≤ k then 1 else 0
theorem psb_01 (f : Int → Int) (n k : Int) : ∀ p, psb f n k p = 0 ∨ psb f n k p = 1 := by
  intro p
  unfold psb
  split
  · exact Or.inr rfl
  · exact Or.inl rfl
theorem plc_congr {f g : Int → Int} {n p : Int} (h : ∀ q, 0 ≤ q → q < n → f q = g q) (hp : 0 ≤ p ∧ p < n) : plc f n p = plc g n p := by
  unfold plc
  rw [h p hp.1 hp.2, sm_congr 0 (fun q h1 h2 => by rw [h q h1 h2])]
theorem psb_congr {f g : Int → Int} {n k p : Int} (h : ∀ q, 0 ≤ q → q < n → f q = g q) (hp : 0 ≤ p ∧ p < n) : psb f n k p = psb g n k p := by
  unfold psb
  rw [h p hp.1 hp.2, plc_congr h hp]
theorem up_id {f : Sf} {k : Nat} {z v : Int} (h : v = f k z) : up f k z v = f := by
  subst h
  funext j i
  by_cases hj : j = k
  · subst hj
    rw [up_at]
    split
    · next h => rw [h]
    · rfl
  · rw [up_ne hj]
theorem up_up {f : Sf} {k : Nat} {z v w : Int} : up (up f k z v) k z w = up f k z w := by
  funext j i
  by_cases hj : j = k
  · subst hj
    rw [up_at, up_at, up_at]
    split <;> rfl
  · rw [up_ne hj, up_ne hj, up_ne hj]
/-- the marks as they would be -/
def md (τ : Sf) (r w j p b : Int) : Sf := if w = 3 then up τ 2 ((r * 7 + j) * 10 + p) b else up τ 1 ((r * 7 + j) * 10 + p) (if b = 1 then 100 else 1)
theorem md_inv {τ : Sf} {r w j p b : Int} (hI : InvX τ) (hb : b = 0 ∨ b = 1) : InvX (md τ r w j p b) := by
  obtain ⟨hn, hm, hmk, hys, hpu, hcu, hpl, hwe, hpr, hmi, hwo, hco, hch⟩ := id hI
  unfold md
  by_cases hw : w = 3
  · rw [if_pos hw]
    refine ⟨hn, hm, hmk, fun i => ?_, hpu, hcu, hpl, hwe, hpr, hmi, hwo, hco, hch⟩
    rw [up_at]
    have := hys i
    split <;> omega
  · rw [if_neg hw]
    refine ⟨hn, hm, fun i => ?_, hys, hpu, hcu, hpl, hwe, hpr, hmi, hwo, hco, hch⟩
    rw [up_at]
    have := hmk i
    have e : (if b = 1 then (100 : Int) else 1) = 100 ∨ (if b = 1 then (100 : Int) else 1) = 1 := by
      split
      · exact Or.inl rfl
      · exact Or.inr rfl
    generalize (if b = 1 then (100 : Int) else 1) = y at e ⊢
    split <;> omega
theorem md_ne {τ : Sf} {r w j p b : Int} {k : Nat} (h1 : k ≠ 1) (h2 : k ≠ 2) : md τ r w j p b k = τ k := by
  unfold md
  split
  · rw [up_ne h2]
  · rw [up_ne h1]

set_option maxHeartbeats 4000000 in
set_option maxRecDepth 100000 in
theorem c_X0_fillScores {E : Ev} {d : Nat} {τ ζ : Sf} {Q : Option Value → Sf → Sf → Prop} {r w : Int} (hI : InvX τ) (hr : 0 ≤ r ∧ r < 3) (hw : 0 ≤ w ∧ w ≤ 5) (hQ : ∀ ζ' : Sf, (∀ q : Int, 0 ≤ q → q < τ 20 0 → ζ' 12 q = scX τ r w q) → (∀ k : Nat, k ≠ 11 → k ≠ 12 → ζ' k = ζ k) → Q none τ ζ') : C E GX kX0_fillScores (d + 6) [.ref (eAd E 0), .int (zI r), .int (zI w)] τ ζ Q := by
  refine C_of (by decide) rfl rfl ?_
  show R E GX kX0_fillScores (d + 6) 0 [some (.ref (eAd E 0)), some (.int (zI r)), some (.int (zI w)), none] [] τ ζ Q
  obtain ⟨hn, hm, hmk, hys, hpu, hcu, hpl, hwe, hpr, hmi, hwo, hco, hch⟩ := id hI
  have loop : ∀ (N : Nat) (p : Int) (ζ' : Sf), (τ 20 0 - p).toNat = N → 0 ≤ p → p ≤ τ 20 0 → (∀ q : Int, 0 ≤ q → q < p → ζ' 12 q = scX τ r w q) → (∀ k : Nat, k ≠ 11 → k ≠ 12 → ζ' k = ζ k) → R E GX kX0_fillScores (d + 6) 2 [some (.ref (eAd E 0)), some (.int (zI r)), some (.int (zI w)), some (.int (zI p))] [] τ ζ' Q := by
    refine st_ind (fun N ih => ?_)
    intro p ζ' hN hj hj2 hz hK
    refine R_iload_n dX0_fillScores_2 rfl ?_
    refine R_aload_n dX0_fillScores_3 rfl ?_
    refine R_getI 20 fX0_fillScores_7 rfl rfl dX0_fillScores_4 ?_
    refine R_icmp_ge (tgt := 29) (by omega) dX0_fillScores_7 (by decide) (fun c7 => ?_) (fun c7 => ?_)
    · refine R_vret rfl dX0_fillScores_29 ?_
      exact hQ _ (fun q h1 h2 => hz q h1 (by omega)) hK
    · refine R_aload_n dX0_fillScores_10 rfl ?_
      refine R_getR fX0_fillScores_50 dX0_fillScores_11 ?_
      refine R_iload_n dX0_fillScores_14 rfl ?_
      refine R_aload_n dX0_fillScores_15 rfl ?_
      refine R_iload_n dX0_fillScores_16 rfl ?_
      refine R_iload_n dX0_fillScores_17 rfl ?_
      refine R_iload_n dX0_fillScores_18 rfl ?_
      refine R_callV3 (k2 := kX0_scoreOf) dX0_fillScores_19 rfl gX0_fillScores_X0_scoreOf kkX0_scoreOf rfl rfl (Nat.le_of_ble_eq_true rfl) (c_X0_scoreOf hI (by omega) (by omega) (by omega) (fun s19 ζ19 h19 hK19 => ?_))
      show R _ _ _ _ 22 _ [_, _, _] _ _ _
      refine R_iasts (q := 12) GXok rfl rfl (by omega) rfl dX0_fillScores_22 ?_
      refine R_iinc dX0_fillScores_23 rfl rfl rfl ?_
      refine R_goto (tgt := 2) dX0_fillScores_26 (by decide) ?_
      refine ih (τ 20 0 - (p + 1)).toNat (by omega) (p + 1) _ rfl (by omega) (by omega) (fun q g1 g2 => ?_) (fun k h1 h2 => ?_)
      · rw [up_at]
        by_cases hq : q = p
        · rw [if_pos hq, hq, h19]
        · rw [if_neg hq, hK19 12 (by decide)]
          exact hz q g1 (by omega)
      · rw [up_ne h2, hK19 k h1]
        exact hK k h1 h2
  refine R_iconst dX0_fillScores_0 ?_
  refine R_istore_n dX0_fillScores_1 rfl rfl ?_
  exact loop _ 0 ζ rfl (by omega) (by omega) (fun q h1 h2 => by omega) (fun k _ _ => rfl)

set_option maxHeartbeats 4000000 in
set_option maxRecDepth 100000 in
theorem c_X0_fillScoresIf {E : Ev} {d : Nat} {τ ζ : Sf} {Q : Option Value → Sf → Sf → Prop} {r w j p b : Int} (hI : InvX τ) (hr : 0 ≤ r ∧ r < 3) (hw : 0 ≤ w ∧ w ≤ 5) (hj : 0 ≤ j ∧ j < τ 21 0) (hp : 0 ≤ p ∧ p < τ 20 0) (hb : b = 0 ∨ b = 1) (hQ : ∀ ζ' : Sf, (∀ q : Int, 0 ≤ q → q < τ 20 0 → ζ' 12 q = scX (md τ r w j p b) r w q) → (∀ k : Nat, k ≠ 11 → k ≠ 12 → ζ' k = ζ k) → Q none τ ζ') : C E GX kX0_fillScoresIf (d + 7) [.ref (eAd E 0), .int (zI r), .int (zI w), .int (zI j), .int (zI p), .int (zI b)] τ ζ Q := by
  refine C_of (by decide) rfl rfl ?_
  show R E GX kX0_fillScoresIf (d + 7) 0 [some (.ref (eAd E 0)), some (.int (zI r)), some (.int (zI w)), some (.int (zI j)), some (.int (zI p)), some (.int (zI b)), none, none, none] [] τ ζ Q
  obtain ⟨hn, hm, hmk, hys, hpu, hcu, hpl, hwe, hpr, hmi, hwo, hco, hch⟩ := id hI
  have hz1 : b = 0 → md τ r w j p b = if w = 3 then up τ 2 ((r * 7 + j) * 10 + p) 0 else up τ 1 ((r * 7 + j) * 10 + p) 1 := by
    intro h
    subst h
    rfl
  have hz2 : b ≠ 0 → md τ r w j p b = if w = 3 then up τ 2 ((r * 7 + j) * 10 + p) 1 else up τ 1 ((r * 7 + j) * 10 + p) 100 := by
    intro h
    have h2 : b = 1 := by omega
    subst h2
    rfl
  have hmi := md_inv (r := r) (w := w) (j := j) (p := p) hI hb
  refine R_iload_n dX0_fillScoresIf_0 rfl ?_
  refine R_iload_n dX0_fillScoresIf_1 rfl ?_
  refine R_iload dX0_fillScoresIf_2 rfl ?_
  refine R_callS3 (k2 := kX0_cellOf) dX0_fillScoresIf_4 rfl gX0_fillScoresIf_X0_cellOf kkX0_cellOf (Nat.le_of_ble_eq_true rfl) (c_X0_cellOf (fun r4 h4 => ?_))
  subst h4
  show R _ _ _ _ 7 _ [_] _ _ _
  refine R_istore dX0_fillScoresIf_7 rfl rfl ?_
  refine R_aload_n dX0_fillScoresIf_9 rfl ?_
  refine R_getR fX0_fillScoresIf_16 dX0_fillScoresIf_10 ?_
  refine R_iload dX0_fillScoresIf_13 rfl ?_
  refine R_iald (q := 1) rfl rfl (by omega) rfl dX0_fillScoresIf_15 ?_
  refine R_istore dX0_fillScoresIf_16 rfl rfl ?_
  refine R_aload_n dX0_fillScoresIf_18 rfl ?_
  refine R_getR fX0_fillScoresIf_20 dX0_fillScoresIf_19 ?_
  refine R_iload dX0_fillScoresIf_22 rfl ?_
  refine R_iald (q := 2) rfl rfl (by omega) rfl dX0_fillScoresIf_24 ?_
  refine R_istore dX0_fillScoresIf_25 rfl rfl ?_
  refine R_iload_n dX0_fillScoresIf_27 rfl ?_
  refine R_iconst dX0_fillScoresIf_28 ?_
  refine R_icmp_ne (tgt := 52) (by omega) dX0_fillScoresIf_29 (by decide) (fun c29 => ?_) (fun c29 => ?_)
  · refine R_aload_n dX0_fillScoresIf_52 rfl ?_
    refine R_getR fX0_fillScoresIf_16 dX0_fillScoresIf_53 ?_
    refine R_iload dX0_fillScoresIf_56 rfl ?_
    refine R_iload dX0_fillScoresIf_58 rfl ?_
    refine R_if_eq (tgt := 68) (by omega) dX0_fillScoresIf_60 (by decide) (fun c60 => ?_) (fun c60 => ?_)
    · refine R_iconst dX0_fillScoresIf_68 ?_
      refine R_iast (q := 1) GXok rfl rfl (by omega) rfl dX0_fillScoresIf_69 ?_
      refine R_aload_n dX0_fillScoresIf_70 rfl ?_
      refine R_iload_n dX0_fillScoresIf_71 rfl ?_
      refine R_iload_n dX0_fillScoresIf_72 rfl ?_
      refine R_callV2 (k2 := kX0_fillScores) dX0_fillScoresIf_73 rfl gX0_fillScoresIf_X0_fillScores kkX0_fillScores rfl rfl (Nat.le_of_ble_eq_true rfl) (c_X0_fillScores (by first | (rw [hz1 c40] at hmi; rw [if_pos (by omega)] at hmi; exact hmi) | (rw [hz2 c40] at hmi; rw [if_pos (by omega)] at hmi; exact hmi) | (rw [hz1 c60] at hmi; rw [if_neg (by omega)] at hmi; exact hmi) | (rw [hz2 c60] at hmi; rw [if_neg (by omega)] at hmi; exact hmi)) (by omega) (by omega) (fun ζ73 hz73 hK73 => ?_))
      show R _ _ _ _ 76 _ [] _ _ _
      refine R_aload_n dX0_fillScoresIf_76 rfl ?_
      refine R_getR fX0_fillScoresIf_16 dX0_fillScoresIf_77 ?_
      refine R_iload dX0_fillScoresIf_80 rfl ?_
      refine R_iload dX0_fillScoresIf_82 rfl ?_
      refine R_iast (q := 1) GXok rfl rfl (by omega) rfl dX0_fillScoresIf_84 ?_
      refine R_aload_n dX0_fillScoresIf_85 rfl ?_
      refine R_getR fX0_fillScoresIf_20 dX0_fillScoresIf_86 ?_
      refine R_iload dX0_fillScoresIf_89 rfl ?_
      refine R_iload dX0_fillScoresIf_91 rfl ?_
      refine R_iast (q := 2) GXok rfl rfl (by omega) rfl dX0_fillScoresIf_93 ?_
      refine R_vret rfl dX0_fillScoresIf_94 ?_
      first
      | (rw [up_id (f := up τ 2 _ _) (by rw [up_ne (by decide)]), up_up, up_id (f := τ) rfl]
         refine hQ _ (fun q h1 h2 => ?_) hK73
         rw [hz73 q h1 h2]
         first
         | (rw [hz1 c40, if_pos (by omega)])
         | (rw [hz2 c40, if_pos (by omega)]))
      | (rw [up_up, up_id (f := τ) rfl, up_id (f := τ) rfl]
         refine hQ _ (fun q h1 h2 => ?_) hK73
         rw [hz73 q h1 h2]
         first
         | (rw [hz1 c60, if_neg (by omega)])
         | (rw [hz2 c60, if_neg (by omega)]))
    · refine R_bipush dX0_fillScoresIf_63 (by decide) ?_
      refine R_goto (tgt := 69) dX0_fillScoresIf_65 (by decide) ?_
      refine R_iast (q := 1) GXok rfl rfl (by omega) rfl dX0_fillScoresIf_69 ?_
      refine R_aload_n dX0_fillScoresIf_70 rfl ?_
      refine R_iload_n dX0_fillScoresIf_71 rfl ?_
      refine R_iload_n dX0_fillScoresIf_72 rfl ?_
      refine R_callV2 (k2 := kX0_fillScores) dX0_fillScoresIf_73 rfl gX0_fillScoresIf_X0_fillScores kkX0_fillScores rfl rfl (Nat.le_of_ble_eq_true rfl) (c_X0_fillScores (by first | (rw [hz1 c40] at hmi; rw [if_pos (by omega)] at hmi; exact hmi) | (rw [hz2 c40] at hmi; rw [if_pos (by omega)] at hmi; exact hmi) | (rw [hz1 c60] at hmi; rw [if_neg (by omega)] at hmi; exact hmi) | (rw [hz2 c60] at hmi; rw [if_neg (by omega)] at hmi; exact hmi)) (by omega) (by omega) (fun ζ73 hz73 hK73 => ?_))
      show R _ _ _ _ 76 _ [] _ _ _
      refine R_aload_n dX0_fillScoresIf_76 rfl ?_
      refine R_getR fX0_fillScoresIf_16 dX0_fillScoresIf_77 ?_
      refine R_iload dX0_fillScoresIf_80 rfl ?_
      refine R_iload dX0_fillScoresIf_82 rfl ?_
      refine R_iast (q := 1) GXok rfl rfl (by omega) rfl dX0_fillScoresIf_84 ?_
      refine R_aload_n dX0_fillScoresIf_85 rfl ?_
      refine R_getR fX0_fillScoresIf_20 dX0_fillScoresIf_86 ?_
      refine R_iload dX0_fillScoresIf_89 rfl ?_
      refine R_iload dX0_fillScoresIf_91 rfl ?_
      refine R_iast (q := 2) GXok rfl rfl (by omega) rfl dX0_fillScoresIf_93 ?_
      refine R_vret rfl dX0_fillScoresIf_94 ?_
      first
      | (rw [up_id (f := up τ 2 _ _) (by rw [up_ne (by decide)]), up_up, up_id (f := τ) rfl]
         refine hQ _ (fun q h1 h2 => ?_) hK73
         rw [hz73 q h1 h2]
         first
         | (rw [hz1 c40, if_pos (by omega)])
         | (rw [hz2 c40, if_pos (by omega)]))
      | (rw [up_up, up_id (f := τ) rfl, up_id (f := τ) rfl]
         refine hQ _ (fun q h1 h2 => ?_) hK73
         rw [hz73 q h1 h2]
         first
         | (rw [hz1 c60, if_neg (by omega)])
         | (rw [hz2 c60, if_neg (by omega)]))
  · refine R_aload_n dX0_fillScoresIf_32 rfl ?_
    refine R_getR fX0_fillScoresIf_20 dX0_fillScoresIf_33 ?_
    refine R_iload dX0_fillScoresIf_36 rfl ?_
    refine R_iload dX0_fillScoresIf_38 rfl ?_
    refine R_if_eq (tgt := 47) (by omega) dX0_fillScoresIf_40 (by decide) (fun c40 => ?_) (fun c40 => ?_)
    · refine R_iconst dX0_fillScoresIf_47 ?_
      refine R_iast (q := 2) GXok rfl rfl (by omega) rfl dX0_fillScoresIf_48 ?_
      refine R_goto (tgt := 70) dX0_fillScoresIf_49 (by decide) ?_
      refine R_aload_n dX0_fillScoresIf_70 rfl ?_
      refine R_iload_n dX0_fillScoresIf_71 rfl ?_
      refine R_iload_n dX0_fillScoresIf_72 rfl ?_
      refine R_callV2 (k2 := kX0_fillScores) dX0_fillScoresIf_73 rfl gX0_fillScoresIf_X0_fillScores kkX0_fillScores rfl rfl (Nat.le_of_ble_eq_true rfl) (c_X0_fillScores (by first | (rw [hz1 c40] at hmi; rw [if_pos (by omega)] at hmi; exact hmi) | (rw [hz2 c40] at hmi; rw [if_pos (by omega)] at hmi; exact hmi) | (rw [hz1 c60] at hmi; rw [if_neg (by omega)] at hmi; exact hmi) | (rw [hz2 c60] at hmi; rw [if_neg (by omega)] at hmi; exact hmi)) (by omega) (by omega) (fun ζ73 hz73 hK73 => ?_))
      show R _ _ _ _ 76 _ [] _ _ _
      refine R_aload_n dX0_fillScoresIf_76 rfl ?_
      refine R_getR fX0_fillScoresIf_16 dX0_fillScoresIf_77 ?_
      refine R_iload dX0_fillScoresIf_80 rfl ?_
      refine R_iload dX0_fillScoresIf_82 rfl ?_
      refine R_iast (q := 1) GXok rfl rfl (by omega) rfl dX0_fillScoresIf_84 ?_
      refine R_aload_n dX0_fillScoresIf_85 rfl ?_
      refine R_getR fX0_fillScoresIf_20 dX0_fillScoresIf_86 ?_
      refine R_iload dX0_fillScoresIf_89 rfl ?_
      refine R_iload dX0_fillScoresIf_91 rfl ?_
      refine R_iast (q := 2) GXok rfl rfl (by omega) rfl dX0_fillScoresIf_93 ?_
      refine R_vret rfl dX0_fillScoresIf_94 ?_
      first
      | (rw [up_id (f := up τ 2 _ _) (by rw [up_ne (by decide)]), up_up, up_id (f := τ) rfl]
         refine hQ _ (fun q h1 h2 => ?_) hK73
         rw [hz73 q h1 h2]
         first
         | (rw [hz1 c40, if_pos (by omega)])
         | (rw [hz2 c40, if_pos (by omega)]))
      | (rw [up_up, up_id (f := τ) rfl, up_id (f := τ) rfl]
         refine hQ _ (fun q h1 h2 => ?_) hK73
         rw [hz73 q h1 h2]
         first
         | (rw [hz1 c60, if_neg (by omega)])
         | (rw [hz2 c60, if_neg (by omega)]))
    · refine R_iconst dX0_fillScoresIf_43 ?_
      refine R_goto (tgt := 48) dX0_fillScoresIf_44 (by decide) ?_
      refine R_iast (q := 2) GXok rfl rfl (by omega) rfl dX0_fillScoresIf_48 ?_
      refine R_goto (tgt := 70) dX0_fillScoresIf_49 (by decide) ?_
      refine R_aload_n dX0_fillScoresIf_70 rfl ?_
      refine R_iload_n dX0_fillScoresIf_71 rfl ?_
      refine R_iload_n dX0_fillScoresIf_72 rfl ?_
      refine R_callV2 (k2 := kX0_fillScores) dX0_fillScoresIf_73 rfl gX0_fillScoresIf_X0_fillScores kkX0_fillScores rfl rfl (Nat.le_of_ble_eq_true rfl) (c_X0_fillScores (by first | (rw [hz1 c40] at hmi; rw [if_pos (by omega)] at hmi; exact hmi) | (rw [hz2 c40] at hmi; rw [if_pos (by omega)] at hmi; exact hmi) | (rw [hz1 c60] at hmi; rw [if_neg (by omega)] at hmi; exact hmi) | (rw [hz2 c60] at hmi; rw [if_neg (by omega)] at hmi; exact hmi)) (by omega) (by omega) (fun ζ73 hz73 hK73 => ?_))
      show R _ _ _ _ 76 _ [] _ _ _
      refine R_aload_n dX0_fillScoresIf_76 rfl ?_
      refine R_getR fX0_fillScoresIf_16 dX0_fillScoresIf_77 ?_
      refine R_iload dX0_fillScoresIf_80 rfl ?_
      refine R_iload dX0_fillScoresIf_82 rfl ?_
      refine R_iast (q := 1) GXok rfl rfl (by omega) rfl dX0_fillScoresIf_84 ?_
      refine R_aload_n dX0_fillScoresIf_85 rfl ?_
      refine R_getR fX0_fillScoresIf_20 dX0_fillScoresIf_86 ?_
      refine R_iload dX0_fillScoresIf_89 rfl ?_
      refine R_iload dX0_fillScoresIf_91 rfl ?_
      refine R_iast (q := 2) GXok rfl rfl (by omega) rfl dX0_fillScoresIf_93 ?_
      refine R_vret rfl dX0_fillScoresIf_94 ?_
      first
      | (rw [up_id (f := up τ 2 _ _) (by rw [up_ne (by decide)]), up_up, up_id (f := τ) rfl]
         refine hQ _ (fun q h1 h2 => ?_) hK73
         rw [hz73 q h1 h2]
         first
         | (rw [hz1 c40, if_pos (by omega)])
         | (rw [hz2 c40, if_pos (by omega)]))
      | (rw [up_up, up_id (f := τ) rfl, up_id (f := τ) rfl]
         refine hQ _ (fun q h1 h2 => ?_) hK73
         rw [hz73 q h1 h2]
         first
         | (rw [hz1 c60, if_neg (by omega)])
         | (rw [hz2 c60, if_neg (by omega)]))

set_option maxHeartbeats 4000000 in
set_option maxRecDepth 100000 in
theorem c_X0_placeIn {E : Ev} {d : Nat} {τ ζ : Sf} {Q : Option Value → Sf → Sf → Prop} {q : Nat} (hq : GX.2.1[q]? = some (.inr (0, 10))) (hp : GX.1 q = false) {p : Int} (hI : InvX τ) (hp2 : 0 ≤ p ∧ p < τ 20 0) (hz : ∀ x : Int, 0 ≤ x → x < τ 20 0 → -1 ≤ ζ q x ∧ ζ q x ≤ 600000000) (hQ : ∀ z : Int, z = plc (ζ q) (τ 20 0) p → Q (some (.int (zI z))) τ ζ) : C E GX kX0_placeIn d [.ref (eAd E 0), .ref (eAd E q), .int (zI p)] τ ζ Q := by
  refine C_of (by decide) rfl rfl ?_
  show R E GX kX0_placeIn d 0 [some (.ref (eAd E 0)), some (.ref (eAd E q)), some (.int (zI p)), none, none] [] τ ζ Q
  obtain ⟨hn, hm, hmk, hys, hpu, hcu, hpl, hwe, hpr, hmi, hwo, hco, hch⟩ := id hI
  have hn10 : Nat.blt 10 2147483648 = true := rfl
  have hzp := hz p (by omega) (by omega)
  have loop : ∀ (N : Nat) (x s : Int), (τ 20 0 - x).toNat = N → 0 ≤ x → x ≤ τ 20 0 → s + sm (fun x => if ζ q p < ζ q x then 1 else 0) x (τ 20 0) = sm (fun x => if ζ q p < ζ q x then 1 else 0) 0 (τ 20 0) → R E GX kX0_placeIn d 5 [some (.ref (eAd E 0)), some (.ref (eAd E q)), some (.int (zI p)), some (.int (zI s)), some (.int (zI x))] [] τ ζ Q := by
    refine st_ind (fun N ih => ?_)
    intro x s hN hx hx2 hs
    refine R_iload dX0_placeIn_5 rfl ?_
    refine R_aload_n dX0_placeIn_7 rfl ?_
    refine R_getI 20 fX0_placeIn_7 rfl rfl dX0_placeIn_8 ?_
    refine R_icmp_ge (tgt := 33) (by omega) dX0_placeIn_11 (by decide) (fun c11 => ?_) (fun c11 => ?_)
    · refine R_iload_n dX0_placeIn_33 rfl ?_
      refine R_iconst dX0_placeIn_34 ?_
      refine R_iadd dX0_placeIn_35 ?_
      refine R_iret rfl dX0_placeIn_36 ?_
      rw [sm_ge (by omega)] at hs
      exact hQ _ (by unfold plc; omega)
    · have hzx := hz x (by omega) (by omega)
      refine R_aload_n dX0_placeIn_14 rfl ?_
      refine R_iload dX0_placeIn_15 rfl ?_
      refine R_ialds (q := q) hq hp (by omega) hn10 dX0_placeIn_17 ?_
      refine R_aload_n dX0_placeIn_18 rfl ?_
      refine R_iload_n dX0_placeIn_19 rfl ?_
      refine R_ialds (q := q) hq hp (by omega) hn10 dX0_placeIn_20 ?_
      refine R_icmp_le (tgt := 27) (by omega) dX0_placeIn_21 (by decide) (fun c21 => ?_) (fun c21 => ?_)
      · refine R_iinc dX0_placeIn_27 rfl rfl rfl ?_
        refine R_goto (tgt := 5) dX0_placeIn_30 (by decide) ?_
        rw [sm_lt (by omega)] at hs
        refine ih (τ 20 0 - (x + 1)).toNat (by omega) (x + 1) _ rfl (by omega) (by omega) ?_
        first
        | (rw [if_neg (show ¬ ζ q p < ζ q x by omega)] at hs
           omega)
        | (rw [if_pos (show ζ q p < ζ q x by omega)] at hs
           omega)
      · refine R_iinc dX0_placeIn_24 rfl rfl rfl ?_
        refine R_iinc dX0_placeIn_27 rfl rfl rfl ?_
        refine R_goto (tgt := 5) dX0_placeIn_30 (by decide) ?_
        rw [sm_lt (by omega)] at hs
        refine ih (τ 20 0 - (x + 1)).toNat (by omega) (x + 1) _ rfl (by omega) (by omega) ?_
        first
        | (rw [if_neg (show ¬ ζ q p < ζ q x by omega)] at hs
           omega)
        | (rw [if_pos (show ζ q p < ζ q x by omega)] at hs
           omega)
  refine R_iconst dX0_placeIn_0 ?_
  refine R_istore_n dX0_placeIn_1 rfl rfl ?_
  refine R_iconst dX0_placeIn_2 ?_
  refine R_istore dX0_placeIn_3 rfl rfl ?_
  exact loop _ 0 0 rfl (by omega) (by omega) (by omega)

set_option maxHeartbeats 4000000 in
set_option maxRecDepth 100000 in
theorem c_X0_passesIn {E : Ev} {d : Nat} {τ ζ : Sf} {Q : Option Value → Sf → Sf → Prop} {q : Nat} (hq : GX.2.1[q]? = some (.inr (0, 10))) (hp : GX.1 q = false) {p k : Int} (hI : InvX τ) (hp2 : 0 ≤ p ∧ p < τ 20 0) (hk : 0 ≤ k ∧ k ≤ 100) (hz : ∀ x : Int, 0 ≤ x → x < τ 20 0 → -1 ≤ ζ q x ∧ ζ q x ≤ 600000000) (h1 : psb (ζ q) (τ 20 0) k p = 1 → Q (some (.int (zI 1))) τ ζ) (h0 : psb (ζ q) (τ 20 0) k p = 0 → Q (some (.int (zI 0))) τ ζ) : C E GX kX0_passesIn (d + 1) [.ref (eAd E 0), .ref (eAd E q), .int (zI p), .int (zI k)] τ ζ Q := by
  refine C_of (by decide) rfl rfl ?_
  show R E GX kX0_passesIn (d + 1) 0 [some (.ref (eAd E 0)), some (.ref (eAd E q)), some (.int (zI p)), some (.int (zI k))] [] τ ζ Q
  obtain ⟨hn, hm, hmk, hys, hpu, hcu, hpl, hwe, hpr, hmi, hwo, hco, hch⟩ := id hI
  have hn10 : Nat.blt 10 2147483648 = true := rfl
  have hzp := hz p (by omega) (by omega)
  have hpb := plc_bd (f := ζ q) (n := τ 20 0) (p := p) (by omega)
  refine R_aload_n dX0_passesIn_0 rfl ?_
  refine R_iload_n dX0_passesIn_1 rfl ?_
  refine R_ialds (q := q) hq hp (by omega) hn10 dX0_passesIn_2 ?_
  refine R_iconst dX0_passesIn_3 ?_
  refine R_icmp_eq (tgt := 21) (by omega) dX0_passesIn_4 (by decide) (fun c4 => ?_) (fun c4 => ?_)
  · refine R_iconst dX0_passesIn_21 ?_
    refine R_zret rfl (by decide) dX0_passesIn_22 ?_
    exact h0 (by unfold psb; rw [if_neg (by omega)])
  · refine R_aload_n dX0_passesIn_7 rfl ?_
    refine R_aload_n dX0_passesIn_8 rfl ?_
    refine R_iload_n dX0_passesIn_9 rfl ?_
    refine R_callV2 (k2 := kX0_placeIn) dX0_passesIn_10 rfl gX0_passesIn_X0_placeIn kkX0_placeIn rfl rfl (Nat.le_of_ble_eq_true rfl) (c_X0_placeIn hq hp hI (by omega) hz (fun r10 h10 => ?_))
    subst h10
    show R _ _ _ _ 13 _ [_] _ _ _
    refine R_iload_n dX0_passesIn_13 rfl ?_
    refine R_icmp_gt (tgt := 21) (by omega) dX0_passesIn_14 (by decide) (fun c14 => ?_) (fun c14 => ?_)
    · refine R_iconst dX0_passesIn_21 ?_
      refine R_zret rfl (by decide) dX0_passesIn_22 ?_
      exact h0 (by unfold psb; rw [if_neg (by omega)])
    · refine R_iconst dX0_passesIn_17 ?_
      refine R_goto (tgt := 22) dX0_passesIn_18 (by decide) ?_
      refine R_zret rfl (by decide) dX0_passesIn_22 ?_
      exact h1 (by unfold psb; rw [if_pos (by omega)])

set_option maxHeartbeats 4000000 in
set_option maxRecDepth 100000 in
theorem c_X0_passedBits {E : Ev} {d : Nat} {τ ζ : Sf} {Q : Option Value → Sf → Sf → Prop} {r w k : Int} (hI : InvX τ) (hr : 0 ≤ r ∧ r < 3) (hw : 0 ≤ w ∧ w ≤ 5) (hk : 0 ≤ k ∧ k ≤ 100) (hQ : ∀ (z : Int) (ζ' : Sf), z = bsm (psb (scX τ r w) (τ 20 0) k) (τ 20 0) → Q (some (.int (zI z))) τ ζ') : C E GX kX0_passedBits (d + 7) [.ref (eAd E 0), .int (zI r), .int (zI w), .int (zI k)] τ ζ Q := by
  refine C_of (by decide) rfl rfl ?_
  show R E GX kX0_passedBits (d + 7) 0 [some (.ref (eAd E 0)), some (.int (zI r)), some (.int (zI w)), some (.int (zI k)), none, none] [] τ ζ Q
  obtain ⟨hn, hm, hmk, hys, hpu, hcu, hpl, hwe, hpr, hmi, hwo, hco, hch⟩ := id hI
  refine R_aload_n dX0_passedBits_0 rfl ?_
  refine R_iload_n dX0_passedBits_1 rfl ?_
  refine R_iload_n dX0_passedBits_2 rfl ?_
  refine R_callV2 (k2 := kX0_fillScores) dX0_passedBits_3 rfl gX0_passedBits_X0_fillScores kkX0_fillScores rfl rfl (Nat.le_of_ble_eq_true rfl) (c_X0_fillScores hI (by omega) (by omega) (fun ζ3 hz3 hK3 => ?_))
  show R _ _ _ _ 6 _ [] _ _ _
  refine R_iconst dX0_passedBits_6 ?_
  refine R_istore dX0_passedBits_7 rfl rfl ?_
  have loop : ∀ (N : Nat) (p s : Int), (τ 20 0 - p).toNat = N → 0 ≤ p → p ≤ τ 20 0 → s = bsm (psb (scX τ r w) (τ 20 0) k) p → R E GX kX0_passedBits (d + 7) 12 [some (.ref (eAd E 0)), some (.int (zI r)), some (.int (zI w)), some (.int (zI k)), some (.int (zI s)), some (.int (zI p))] [] τ ζ3 Q := by
    refine st_ind (fun N ih => ?_)
    intro p s hN hx hx2 hs
    have hbb := bsm_bd' (psb_01 (scX τ r w) (τ 20 0) k) hx
    have hS := bsm_S (b := psb (scX τ r w) (τ 20 0) k) hx
    refine R_iload dX0_passedBits_12 rfl ?_
    refine R_aload_n dX0_passedBits_14 rfl ?_
    refine R_getI 20 fX0_passedBits_7 rfl rfl dX0_passedBits_15 ?_
    refine R_icmp_ge (tgt := 50) (by omega) dX0_passedBits_18 (by decide) (fun c18 => ?_) (fun c18 => ?_)
    · refine R_iload dX0_passedBits_50 rfl ?_
      refine R_iret rfl dX0_passedBits_52 ?_
      have e : p = τ 20 0 := by omega
      subst e
      exact hQ _ _ hs
    · refine R_aload_n dX0_passedBits_21 rfl ?_
      refine R_aload_n dX0_passedBits_22 rfl ?_
      refine R_getR fX0_passedBits_50 dX0_passedBits_23 ?_
      refine R_iload dX0_passedBits_26 rfl ?_
      refine R_iload_n dX0_passedBits_28 rfl ?_
      refine R_callV3 (k2 := kX0_passesIn) dX0_passedBits_29 rfl gX0_passedBits_X0_passesIn kkX0_passesIn rfl rfl (Nat.le_of_ble_eq_true rfl) (c_X0_passesIn rfl rfl hI (by omega) (by omega) (fun x g1 g2 => by rw [hz3 x g1 g2]; have := scX_bd (r := r) (p := x) hI hw; omega) (fun b29 => ?_) (fun b29 => ?_))
      · show R _ _ _ _ 32 _ [_] _ _ _
        refine R_if_eq (tgt := 44) (by decide) dX0_passedBits_32 (by decide) (fun h => absurd h (by decide)) (fun _ => ?_)
        refine R_iload dX0_passedBits_35 rfl ?_
        refine R_iconst dX0_passedBits_37 ?_
        refine R_iload dX0_passedBits_38 rfl ?_
        refine R_ishl (p2 p) (zI_shl1 (by omega)) dX0_passedBits_40 ?_
        refine R_ior (s + p2 p) (zI_or2 (by omega) hx) dX0_passedBits_41 ?_
        refine R_istore dX0_passedBits_42 rfl rfl ?_
        refine R_iinc dX0_passedBits_44 rfl rfl rfl ?_
        refine R_goto (tgt := 12) dX0_passedBits_47 (by decide) ?_
        refine ih (τ 20 0 - (p + 1)).toNat (by omega) (p + 1) _ rfl (by omega) (by omega) ?_
        rw [hS]
        rw [psb_congr hz3 (by omega)] at b29
        rw [b29]
        omega
      · show R _ _ _ _ 32 _ [_] _ _ _
        refine R_if_eq (tgt := 44) (by decide) dX0_passedBits_32 (by decide) (fun _ => ?_) (fun h => absurd h (by decide))
        refine R_iinc dX0_passedBits_44 rfl rfl rfl ?_
        refine R_goto (tgt := 12) dX0_passedBits_47 (by decide) ?_
        refine ih (τ 20 0 - (p + 1)).toNat (by omega) (p + 1) _ rfl (by omega) (by omega) ?_
        rw [hS]
        rw [psb_congr hz3 (by omega)] at b29
        rw [b29]
        omega
  refine R_iconst dX0_passedBits_9 ?_
  refine R_istore dX0_passedBits_10 rfl rfl ?_
  exact loop _ 0 0 rfl (by omega) (by omega) (sm_ge (by omega)).symm

/-! THE CLASS AND THE REFERENCE SIDE BY SIDE -/
theorem bt_nat {n : Nat} {w : Int} : (n : Int) / p2 w % 2 = 1 ↔ n.testBit w.toNat = true := by
  have e2 : p2 w = ((2 ^ w.toNat : Nat) : Int) := by
    unfold p2
    rw [Int.natCast_pow]
    rfl
  have e3 : ((n / 2 ^ w.toNat % 2 : Nat) : Int) = (n : Int) / p2 w % 2 := by
    rw [e2, Int.natCast_emod, Int.natCast_ediv]
    rfl
  rw [Nat.testBit_eq_decide_div_mod_eq, decide_eq_true_iff]
  omega
theorem bt_01 (z w : Int) : z / p2 w % 2 = 0 ∨ z / p2 w % 2 = 1 := by omega
theorem aI_bt {a b w : Int} (ha : 0 ≤ a) (hb : 0 ≤ b) : aI a b / p2 w % 2 = 1 ↔ (a / p2 w % 2 = 1 ∧ b / p2 w % 2 = 1) := by
  obtain ⟨n, rfl⟩ : ∃ n : Nat, a = n := ⟨a.toNat, by omega⟩
  obtain ⟨m, rfl⟩ : ∃ m : Nat, b = m := ⟨b.toNat, by omega⟩
  show ((n &&& m : Nat) : Int) / p2 w % 2 = 1 ↔ _
  rw [bt_nat, bt_nat, bt_nat, Nat.testBit_and, Bool.and_eq_true]
theorem oI_bt {a b w : Int} (ha : 0 ≤ a) (hb : 0 ≤ b) : oI a b / p2 w % 2 = 1 ↔ (a / p2 w % 2 = 1 ∨ b / p2 w % 2 = 1) := by
  obtain ⟨n, rfl⟩ : ∃ n : Nat, a = n := ⟨a.toNat, by omega⟩
  obtain ⟨m, rfl⟩ : ∃ m : Nat, b = m := ⟨b.toNat, by omega⟩
  show ((n ||| m : Nat) : Int) / p2 w % 2 = 1 ↔ _
  rw [bt_nat, bt_nat, bt_nat, Nat.testBit_or, Bool.or_eq_true]
theorem aI_zero {a b : Int} (ha : 0 ≤ a ∧ a ≤ 4095) (hb : 0 ≤ b ∧ b ≤ 4095) : aI a b = 0 ↔ ∀ w : Int, 0 ≤ w → w < 12 → ¬ (a / p2 w % 2 = 1 ∧ b / p2 w % 2 = 1) := by
  constructor
  · intro h w h1 h2 h3
    have h4 := (aI_bt (w := w) ha.1 hb.1).mpr h3
    rw [h, Int.zero_ediv] at h4
    omega
  · intro h
    have h1 : a.toNat &&& b.toNat = 0 := by
      apply Nat.eq_of_testBit_eq
      intro i
      rw [Nat.zero_testBit]
      by_cases hi : i < 12
      · have h2 := h (i : Int) (by omega) (by omega)
        by_cases h3 : (a.toNat &&& b.toNat).testBit i = true
        · exfalso
          have h4 : ((a.toNat &&& b.toNat : Nat) : Int) / p2 (i : Int) % 2 = 1 := bt_nat.mpr (by simpa using h3)
          exact h2 ((aI_bt (w := (i : Int)) ha.1 hb.1).mp h4)
        · simpa using h3
      · have h2 : a.toNat &&& b.toNat < 2 ^ 12 := Nat.and_lt_two_pow _ (by omega)
        exact Nat.testBit_lt_two_pow (Nat.lt_of_lt_of_le h2 (Nat.pow_le_pow_right (by omega) (by omega)))
    unfold aI
    omega
theorem bad_zero {H : Int → Int} {x t : Int} : bad H x t = 0 ↔ ∀ w, 0 ≤ w → w < 12 → x / p2 w % 2 = 1 → H w < t := by
  have hnn : ∀ i, 0 ≤ i → i < 12 → 0 ≤ (fun w => if x / p2 w % 2 = 1 ∧ ¬ H w < t then (1 : Int) else 0) i := fun i _ _ => by
    show 0 ≤ ite _ _ _
    split <;> omega
  constructor
  · intro h w h1 h2 h3
    by_cases h4 : H w < t
    · exact h4
    · exfalso
      have h5 := sm_one (f := fun w => if x / p2 w % 2 = 1 ∧ ¬ H w < t then (1 : Int) else 0) (b := 12) (j := w) 0 hnn h1 h2
      have h6 : (if x / p2 w % 2 = 1 ∧ ¬ H w < t then (1 : Int) else 0) = 1 := if_pos ⟨h3, h4⟩
      unfold bad at h
      rw [h] at h5
      have h7 : (if x / p2 w % 2 = 1 ∧ ¬ H w < t then (1 : Int) else 0) ≤ 0 := h5
      omega
  · intro h
    exact sm_zero 0 (fun w h1 h2 => if_neg (fun q => q.2 (h w h1 h2 q.1)))
theorem tr_congr {a b : Int → Option (Int → Int)} : ∀ (m : Nat) (i : Int), (∀ j, i ≤ j → a j = b j) → tr a m i = tr b m i := by
  intro m
  induction m with
  | zero => intro i _; rfl
  | succ m ih =>
    intro i h
    rw [tr_S, tr_S, h i (by omega), ih (i + 1) (fun j hj => h j (by omega))]
theorem sr_eq {W co mi : Int → Int} {lo hi ti : Int} (hW : ∀ i, 0 ≤ W i ∧ W i ≤ 4095) (hpos : ∀ p i, 0 ≤ p → 0 ≤ i → i < co p → 1 ≤ W (p * 3 + i)) (hti : 1 ≤ ti ∧ ti ≤ 3) :
    ∀ (k : Nat) (p o t h : Int) (H : Int → Int), 0 ≤ p → (0 ≤ o ∧ o ≤ 4095) → (0 ≤ t ∧ t ≤ 4095) → (0 ≤ h ∧ h ≤ 4095) → (∀ w, 0 ≤ w → w < 12 → 0 ≤ H w ∧ (o / p2 w % 2 = 1 ↔ ti - 2 ≤ H w) ∧ (t / p2 w % 2 = 1 ↔ ti - 1 ≤ H w) ∧ (h / p2 w % 2 = 1 ↔ ti ≤ H w)) →
      srF (fun x => fit mi lo hi (W x)) co k p o t h = srM W co mi lo hi ti k p H := by
  intro k
  induction k with
  | zero => intro p o t h H _ _ _ _ _; rfl
  | succ k ih =>
    intro p o t h H hp ho ht hh hR
    rw [srF_S, srM_S]
    refine tr_congr 3 0 (fun i hi0 => ?_)
    unfold trF trM
    have e3 : 3 * p + i = p * 3 + i := by omega
    rw [e3]
    have hx := hW (p * 3 + i)
    by_cases hic : i < co p
    · have hx1 := hpos p i hp hi0 hic
      by_cases hm : lo ≤ mnt mi (W (p * 3 + i)) ∧ mnt mi (W (p * 3 + i)) ≤ hi
      · have hf : (fun x => fit mi lo hi (W x)) (p * 3 + i) = W (p * 3 + i) := if_pos hm
        rw [hf]
        have hiff : aI (W (p * 3 + i)) h = 0 ↔ bad H (W (p * 3 + i)) ti = 0 := by
          rw [aI_zero hx hh, bad_zero]
          constructor
          · intro q w h1 h2 h3
            have := hR w h1 h2
            have := q w h1 h2
            omega
          · intro q w h1 h2 h3
            have := hR w h1 h2
            have := q w h1 h2 h3.1
            omega
        by_cases hb : bad H (W (p * 3 + i)) ti = 0
        · rw [if_pos ⟨hic, by omega, hiff.mpr hb⟩, if_pos ⟨hic, hm, hb⟩]
          rw [ih (p + 1) _ _ _ (hrF H (W (p * 3 + i)) 1) (by omega) (oI_bd ho hx) (oI_bd ht (aI_bd ho hx)) (oI_bd hh (aI_bd ht hx)) (fun w h1 h2 => ?_)]
          have hr := hR w h1 h2
          have b1 := oI_bt (w := w) ho.1 hx.1
          have b2 := oI_bt (w := w) ht.1 (aI_bd ho hx).1
          have b3 := aI_bt (w := w) ho.1 hx.1
          have b4 := oI_bt (w := w) hh.1 (aI_bd ht hx).1
          have b5 := aI_bt (w := w) ht.1 hx.1
          have b6 := bt_01 (W (p * 3 + i)) w
          have e1 : hrF H (W (p * 3 + i)) 1 w = H w + W (p * 3 + i) / p2 w % 2 * 1 := if_pos ⟨h1, h2⟩
          rw [e1, b1, b2, b3, b4, b5]
          omega
        · rw [if_neg (fun q => hb (hiff.mp q.2.2)), if_neg (fun q => hb q.2.2)]
      · have hf : (fun x => fit mi lo hi (W x)) (p * 3 + i) = 0 := if_neg hm
        rw [hf, if_neg (fun q => q.2.1 rfl), if_neg (fun q => hm q.2.1)]
    · rw [if_neg (fun q => hic q.1), if_neg (fun q => hic q.1)]
/-- what the two share -/
def heX (τ : Sf) (w : Int) : Int := sm (fun p => if τ 10 p = -1 then 0 else τ 8 (p * 3 + τ 10 p) / p2 w % 2) 0 (τ 20 0)
def Sim (x m : Sf) : Prop := InvX x ∧ InvM m ∧ m 20 = x 20 ∧ m 21 = x 21 ∧ m 1 = x 1 ∧ m 2 = x 2 ∧ m 3 = x 3 ∧ m 25 0 = x 4 0 ∧ m 26 0 = x 4 1 ∧ m 4 = x 5 ∧ m 5 = x 6 ∧ m 6 = x 7 ∧ m 8 = x 8 ∧ m 7 = x 9 ∧ (∀ p, 0 ≤ p → p < x 20 0 → x 10 p = chM m p) ∧ (∀ w, 0 ≤ w → w < 12 → heM m w = heX x w) ∧ (∀ p, x 20 0 ≤ p → x 9 p = 0) ∧ (∀ p i, 0 ≤ p → 0 ≤ i → i < x 9 p → 1 ≤ x 8 (p * 3 + i)) ∧ (∀ i, 0 ≤ x 4 i ∧ x 4 i ≤ 50) ∧ (∀ p, x 10 p < x 9 p)
theorem sc_same {x m : Sf} (e1 : m 1 = x 1) (e2 : m 2 = x 2) (e3 : m 3 = x 3) (e20 : m 20 = x 20) (e21 : m 21 = x 21) (e25 : m 25 0 = x 4 0) (e26 : m 26 0 = x 4 1) : scM m = scX x := by
  funext r w p
  have hV : VV m r = VV x r := by
    funext q j
    unfold VV
    rw [e1, e3]
  have hY : YY m r = YY x r := by
    funext q j
    unfold YY
    rw [e2]
  unfold scM scX
  rw [hV, hY, e20, e21, e25, e26]
theorem VV_same {x m : Sf} (e1 : m 1 = x 1) (e3 : m 3 = x 3) : VV m = VV x := by
  funext r q j
  unfold VV
  rw [e1, e3]
section Sims
variable {x m : Sf}
theorem sim_sc (S : Sim x m) : scM m = scX x := by
  obtain ⟨hX, hM, e20, e21, e1, e2, e3, e25, e26, e4, e5, e6, e8, e7, hch, hhe, hz9, hpos, hru, hlt⟩ := S
  exact sc_same e1 e2 e3 e20 e21 e25 e26
theorem sim_md (S : Sim x m) (r w j p b : Int) : scM (md m r w j p b) = scX (md x r w j p b) := by
  obtain ⟨hX, hM, e20, e21, e1, e2, e3, e25, e26, e4, e5, e6, e8, e7, hch, hhe, hz9, hpos, hru, hlt⟩ := S
  unfold md
  split
  · refine sc_same ?_ ?_ ?_ ?_ ?_ ?_ ?_
    · rw [up_ne (by decide), up_ne (by decide), e1]
    · rw [up_eq, up_eq, e2]
    · rw [up_ne (by decide), up_ne (by decide), e3]
    · rw [up_ne (by decide), up_ne (by decide), e20]
    · rw [up_ne (by decide), up_ne (by decide), e21]
    · rw [up_ne (by decide), up_ne (by decide), e25]
    · rw [up_ne (by decide), up_ne (by decide), e26]
  · refine sc_same ?_ ?_ ?_ ?_ ?_ ?_ ?_
    · rw [up_eq, up_eq, e1]
    · rw [up_ne (by decide), up_ne (by decide), e2]
    · rw [up_ne (by decide), up_ne (by decide), e3]
    · rw [up_ne (by decide), up_ne (by decide), e20]
    · rw [up_ne (by decide), up_ne (by decide), e21]
    · rw [up_ne (by decide), up_ne (by decide), e25]
    · rw [up_ne (by decide), up_ne (by decide), e26]

theorem sim_to (S : Sim x m) : toM m = toX x := by
  obtain ⟨hX, hM, e20, e21, e1, e2, e3, e25, e26, e4, e5, e6, e8, e7, hch, hhe, hz9, hpos, hru, hlt⟩ := id S
  funext p
  unfold toM toX
  rw [e4, sim_sc S]
theorem sim_score (S : Sim x m) (r w p : Int) : fMscore m r w p = fscore x r w p := by
  obtain ⟨hX, hM, e20, e21, e1, e2, e3, e25, e26, e4, e5, e6, e8, e7, hch, hhe, hz9, hpos, hru, hlt⟩ := id S
  unfold fMscore fscore
  rw [e20, sim_sc S]
theorem sim_beats (S : Sim x m) (r p q : Int) : fMbeats m r p q = fbeats x r p q := by
  obtain ⟨hX, hM, e20, e21, e1, e2, e3, e25, e26, e4, e5, e6, e8, e7, hch, hhe, hz9, hpos, hru, hlt⟩ := id S
  unfold fMbeats fbeats
  rw [e20, e21, VV_same e1 e3]
theorem sim_place (S : Sim x m) (r w p : Int) : fMplace m r w p = fplace x r w p := by
  obtain ⟨hX, hM, e20, e21, e1, e2, e3, e25, e26, e4, e5, e6, e8, e7, hch, hhe, hz9, hpos, hru, hlt⟩ := id S
  unfold fMplace fplace
  rw [e20, sim_sc S]
theorem sim_passed (S : Sim x m) (r w k : Int) : fMpassed m r w k = fpassed x r w k := by
  obtain ⟨hX, hM, e20, e21, e1, e2, e3, e25, e26, e4, e5, e6, e8, e7, hch, hhe, hz9, hpos, hru, hlt⟩ := id S
  unfold fMpassed fpassed
  rw [e20, sim_sc S]
theorem sim_differ (S : Sim x m) (r w v k : Int) : fMdiffer m r w v k = fdiffer x r w v k := by
  obtain ⟨hX, hM, e20, e21, e1, e2, e3, e25, e26, e4, e5, e6, e8, e7, hch, hhe, hz9, hpos, hru, hlt⟩ := id S
  unfold fMdiffer fdiffer
  rw [e20, sim_sc S]
theorem sim_reach (S : Sim x m) (r w j p s : Int) : fMreach m r w j p s = freach x r w j p s := by
  obtain ⟨hX, hM, e20, e21, e1, e2, e3, e25, e26, e4, e5, e6, e8, e7, hch, hhe, hz9, hpos, hru, hlt⟩ := id S
  unfold fMreach freach
  rw [e20, e21, e3, sim_md S, show 10 * j + p = j * 10 + p by omega]
theorem md_psb (S : Sim x m) {r w j p k : Int} (hw : 0 ≤ w ∧ w ≤ 5) (hp : 0 ≤ p ∧ p < x 20 0) : psb (scX (md x r w j p 0) r w) (x 20 0) k p ≤ psb (scX (md x r w j p 1) r w) (x 20 0) k p := by
  obtain ⟨hX, hM, e20, e21, e1, e2, e3, e25, e26, e4, e5, e6, e8, e7, hch, hhe, hz9, hpos, hru, hlt⟩ := id S
  have hp' : 0 ≤ p ∧ p < m 20 0 := by
    rw [e20]
    exact hp
  rw [← sim_md S, ← sim_md S, ← e20]
  by_cases hw3 : w = 3
  · have a1 : md m r w j p 1 = up m 2 ((r * 7 + j) * 10 + p) 1 := by
      unfold md
      rw [if_pos hw3]
    have a0 : md m r w j p 0 = up m 2 ((r * 7 + j) * 10 + p) 0 := by
      unfold md
      rw [if_pos hw3]
    rw [a1, a0]
    exact my_psb hM hw hp'
  · have a1 : md m r w j p 1 = up m 1 ((r * 7 + j) * 10 + p) 100 := by
      unfold md
      rw [if_neg hw3]
      rfl
    have a0 : md m r w j p 0 = up m 1 ((r * 7 + j) * 10 + p) 1 := by
      unfold md
      rw [if_neg hw3]
      rfl
    rw [a1, a0]
    exact mv_psb hM hw hp' (by omega)
theorem sim_sway (S : Sim x m) (r w j k : Int) : fMsway m r w j k = fsway x r w j k := by
  obtain ⟨hX, hM, e20, e21, e1, e2, e3, e25, e26, e4, e5, e6, e8, e7, hch, hhe, hz9, hpos, hru, hlt⟩ := id S
  unfold fMsway fsway
  rw [e20, e21]
  by_cases h1 : r < 0 ∨ 2 < r ∨ j < 0 ∨ x 21 0 ≤ j
  · rw [if_pos h1, if_pos h1]
  · rw [if_neg h1, if_neg h1]
    by_cases h2 : w < 0 ∨ 5 < w ∨ k < 1 ∨ 10 < k
    · rw [if_pos h2, if_pos h2]
    · rw [if_neg h2, if_neg h2]
      refine sm_congr 0 (fun p g1 g2 => ?_)
      have hmp := md_psb S (r := r) (w := w) (j := j) (p := p) (k := k) (by omega) ⟨g1, g2⟩
      have q0 := psb_le (scX (md x r w j p 0) r w) (x 20 0) k p
      have q1 := psb_le (scX (md x r w j p 1) r w) (x 20 0) k p
      have q2 := psb_le (scX x r w) (x 20 0) k p
      unfold swM swb
      rw [e3, e20, sim_md S, sim_md S, sim_sc S, show 10 * j + p = j * 10 + p by omega]
      split
      · rfl
      · split <;> split <;> (try split) <;> omega
theorem sim_total (S : Sim x m) (p : Int) : fMtotal m p = ftotal x p := by
  obtain ⟨hX, hM, e20, e21, e1, e2, e3, e25, e26, e4, e5, e6, e8, e7, hch, hhe, hz9, hpos, hru, hlt⟩ := id S
  unfold fMtotal ftotal
  rw [e20, sim_to S]
theorem sim_last (S : Sim x m) (p : Int) : fMlast m p = flast x p := by
  obtain ⟨hX, hM, e20, e21, e1, e2, e3, e25, e26, e4, e5, e6, e8, e7, hch, hhe, hz9, hpos, hru, hlt⟩ := id S
  unfold fMlast flast
  rw [e20, sim_to S]
theorem sim_wins (S : Sim x m) (p : Int) : fMwins m p = fwins x p := by
  obtain ⟨hX, hM, e20, e21, e1, e2, e3, e25, e26, e4, e5, e6, e8, e7, hch, hhe, hz9, hpos, hru, hlt⟩ := id S
  unfold fMwins fwins
  rw [e20, e5, sim_to S]
theorem sim_rest (S : Sim x m) : fMrest m  = frest x  := by
  obtain ⟨hX, hM, e20, e21, e1, e2, e3, e25, e26, e4, e5, e6, e8, e7, hch, hhe, hz9, hpos, hru, hlt⟩ := id S
  unfold fMrest frest
  rw [e20, e5, sim_to S]
theorem sim_chosen (S : Sim x m) (p : Int) : fMchosen m p = fchosen x p := by
  obtain ⟨hX, hM, e20, e21, e1, e2, e3, e25, e26, e4, e5, e6, e8, e7, hch, hhe, hz9, hpos, hru, hlt⟩ := id S
  unfold fMchosen fchosen
  rw [e20]
  by_cases h1 : p < 0 ∨ x 20 0 ≤ p
  · rw [if_pos h1, if_pos h1]
  · rw [if_neg h1, if_neg h1]
    exact (hch p (by omega) (by omega)).symm
theorem sim_heard (S : Sim x m) (w : Int) : fMheard m w = fheard x w := by
  obtain ⟨hX, hM, e20, e21, e1, e2, e3, e25, e26, e4, e5, e6, e8, e7, hch, hhe, hz9, hpos, hru, hlt⟩ := id S
  unfold fMheard fheard
  by_cases h1 : w < 0 ∨ 11 < w
  · rw [if_pos h1, if_pos h1]
  · rw [if_neg h1, if_neg h1]
    exact hhe w (by omega) (by omega)
theorem sim_drawn (S : Sim x m) (l i : Int) : fMdrawn m l i = fdrawn x l i := by
  obtain ⟨hX, hM, e20, e21, e1, e2, e3, e25, e26, e4, e5, e6, e8, e7, hch, hhe, hz9, hpos, hru, hlt⟩ := id S
  unfold fMdrawn fdrawn
  rw [e20]
theorem sm_split {f : Int → Int} {b c : Int} (h : b ≤ c) : ∀ a, a ≤ b → (∀ i, b ≤ i → i < c → f i = 0) → sm f a c = sm f a b := by
  refine sm_ind b (fun a h1 h2 h3 => ?_) (fun a h1 ih h2 h3 => ?_)
  · rw [sm_ge (show b ≤ a by omega)]
    exact sm_zero a (fun i g1 g2 => h3 i (by omega) g2)
  · rw [sm_lt (show a < c by omega), sm_lt h1, ih (by omega) h3]
theorem sim_count (S : Sim x m) (w : Int) : fMcount m w = fcount x w := by
  obtain ⟨hX, hM, e20, e21, e1, e2, e3, e25, e26, e4, e5, e6, e8, e7, hch, hhe, hz9, hpos, hru, hlt⟩ := id S
  obtain ⟨hn, hm, hmk, hys, hpu, hcu, hpl, hwe, hpr, hmi, hwo, hco, hchx⟩ := id hX
  obtain ⟨kn, km, kmk, kys, kpu, kcu, kpl, kwe, kpr, kmi, kwo, kco, kch, khp⟩ := id hM
  have h9 : sm (x 9) 0 10 = sm (x 9) 0 (x 20 0) := sm_split (by omega) 0 (by omega) (fun i g1 g2 => hz9 i g1)
  unfold fMcount fcount
  rw [e20, e21, e1, e2, e3, e7, h9]
theorem fo_congr {f g : Int → Int → Int} {b : Int} : ∀ (a : Int), (∀ i h, a ≤ i → i < b → f i h = g i h) → ∀ h, fo f a b h = fo g a b h := by
  refine sm_ind b (fun a h1 _ h => ?_) (fun a h1 ih h2 h => ?_)
  · rw [fo_ge h1, fo_ge h1]
  · rw [fo_lt h1, fo_lt h1, h2 a h (by omega) h1, ih (fun i h g1 g2 => h2 i h (by omega) g2)]
theorem sim_digest (S : Sim x m) : dgM m  = dgX x  := by
  obtain ⟨hX, hM, e20, e21, e1, e2, e3, e25, e26, e4, e5, e6, e8, e7, hch, hhe, hz9, hpos, hru, hlt⟩ := id S
  have hC : dgC m = dgC x := by
    funext r j p h
    unfold dgC
    rw [e1, e2]
  have hJ : dgJ m = dgJ x := by
    funext r j h
    unfold dgJ
    rw [hC, e20]
  have hR : dgR m = dgR x := by
    funext r h
    unfold dgR
    rw [hJ, e21]
  have hPp : dgP m = dgP x := by
    funext j h
    unfold dgP
    rw [e3, e20]
  have hW : ∀ p h, dgWM m p h = dgW x p h := by
    intro p h
    unfold dgWM dgW
    rw [e7, e8]
    exact fo_congr 0 (fun i h _ _ => by rw [show 3 * p + i = p * 3 + i by omega]) h
  have h2 : ∀ h, fo (fun i h => 31 * h + x 4 i) 0 2 h = 31 * (31 * h + x 4 0) + x 4 1 := by
    intro h
    rw [fo_lt (by omega), fo_lt (by omega), fo_ge (by omega)]
    rfl
  unfold dgM dgM5 dgM4 dgM3 dgM2 dgM1 dgX
  simp only []
  rw [h2, hR, hPp, e20, e21, e25, e26, e4, e5, e6]
  exact fo_congr 0 (fun p h g1 g2 => by rw [hW, hch p g1 g2]) _
theorem sim_mark (S : Sim x m) (r j p v : Int) : fMmark m r j p v = fmark x r j p v ∧ Sim (tmark x r j p v) (tMmark m r j p v) := by
  obtain ⟨hX, hM, e20, e21, e1, e2, e3, e25, e26, e4, e5, e6, e8, e7, hch, hhe, hz9, hpos, hru, hlt⟩ := id S
  obtain ⟨hn, hm, hmk, hys, hpu, hcu, hpl, hwe, hpr, hmi, hwo, hco, hchx⟩ := id hX
  obtain ⟨kn, km, kmk, kys, kpu, kcu, kpl, kwe, kpr, kmi, kwo, kco, kch, khp⟩ := id hM
  unfold fMmark fmark tMmark tmark
  rw [e20, e21, e1, show 70 * r + 10 * j + p = (r * 7 + j) * 10 + p by omega]
  refine ⟨rfl, ?_⟩
  by_cases h0 : r < 0 ∨ 2 < r ∨ j < 0 ∨ x 21 0 ≤ j ∨ p < 0 ∨ x 20 0 ≤ p
  · rw [if_pos h0, if_pos h0]
    exact S
  rw [if_neg h0, if_neg h0]
  by_cases h1 : v ≠ -1 ∧ (v < 1 ∨ 100 < v)
  · rw [if_pos h1, if_pos h1]
    exact S
  rw [if_neg h1, if_neg h1]
  exact ⟨⟨hn, hm, (fun i => by have := hmk i; rw [up_at]; split <;> omega), hys, hpu, hcu, hpl, hwe, hpr, hmi, hwo, hco, hchx⟩, ⟨kn, km, (fun i => by have := kmk i; rw [up_at]; split <;> omega), kys, kpu, kcu, kpl, kwe, kpr, kmi, kwo, kco, kch, khp⟩, e20, e21, (by rw [up_eq, up_eq, e1]), e2, e3, e25, e26, e4, e5, e6, e8, e7, hch, hhe, hz9, hpos, hru, hlt⟩
theorem sim_yes (S : Sim x m) (r j p b : Int) (hb : b = 0 ∨ b = 1) : fMyes m r j p b = fyes x r j p b ∧ Sim (tyes x r j p b) (tMyes m r j p b) := by
  obtain ⟨hX, hM, e20, e21, e1, e2, e3, e25, e26, e4, e5, e6, e8, e7, hch, hhe, hz9, hpos, hru, hlt⟩ := id S
  obtain ⟨hn, hm, hmk, hys, hpu, hcu, hpl, hwe, hpr, hmi, hwo, hco, hchx⟩ := id hX
  obtain ⟨kn, km, kmk, kys, kpu, kcu, kpl, kwe, kpr, kmi, kwo, kco, kch, khp⟩ := id hM
  unfold fMyes fyes tMyes tyes
  rw [e20, e21, e2, show 70 * r + 10 * j + p = (r * 7 + j) * 10 + p by omega]
  refine ⟨rfl, ?_⟩
  by_cases h0 : r < 0 ∨ 2 < r ∨ j < 0 ∨ x 21 0 ≤ j ∨ p < 0 ∨ x 20 0 ≤ p
  · rw [if_pos h0, if_pos h0]
    exact S
  rw [if_neg h0, if_neg h0]
  exact ⟨⟨hn, hm, hmk, (fun i => by have := hys i; rw [up_at]; split <;> omega), hpu, hcu, hpl, hwe, hpr, hmi, hwo, hco, hchx⟩, ⟨kn, km, kmk, (fun i => by have := kys i; rw [up_at]; split <;> omega), kpu, kcu, kpl, kwe, kpr, kmi, kwo, kco, kch, khp⟩, e20, e21, e1, (by rw [up_eq, up_eq, e2]), e3, e25, e26, e4, e5, e6, e8, e7, hch, hhe, hz9, hpos, hru, hlt⟩
theorem sim_pupil (S : Sim x m) (j p b : Int) (hb : b = 0 ∨ b = 1) : fMpupil m j p b = fpupil x j p b ∧ Sim (tpupil x j p b) (tMpupil m j p b) := by
  obtain ⟨hX, hM, e20, e21, e1, e2, e3, e25, e26, e4, e5, e6, e8, e7, hch, hhe, hz9, hpos, hru, hlt⟩ := id S
  obtain ⟨hn, hm, hmk, hys, hpu, hcu, hpl, hwe, hpr, hmi, hwo, hco, hchx⟩ := id hX
  obtain ⟨kn, km, kmk, kys, kpu, kcu, kpl, kwe, kpr, kmi, kwo, kco, kch, khp⟩ := id hM
  unfold fMpupil fpupil tMpupil tpupil
  rw [e20, e21, e3, show 10 * j + p = j * 10 + p by omega]
  refine ⟨rfl, ?_⟩
  by_cases h0 : j < 0 ∨ x 21 0 ≤ j ∨ p < 0 ∨ x 20 0 ≤ p
  · rw [if_pos h0, if_pos h0]
    exact S
  rw [if_neg h0, if_neg h0]
  exact ⟨⟨hn, hm, hmk, hys, (fun i => by have := hpu i; rw [up_at]; split <;> omega), hcu, hpl, hwe, hpr, hmi, hwo, hco, hchx⟩, ⟨kn, km, kmk, kys, (fun i => by have := kpu i; rw [up_at]; split <;> omega), kcu, kpl, kwe, kpr, kmi, kwo, kco, kch, khp⟩, e20, e21, e1, e2, (by rw [up_eq, up_eq, e3]), e25, e26, e4, e5, e6, e8, e7, hch, hhe, hz9, hpos, hru, hlt⟩
theorem sim_weight (S : Sim x m) (r v : Int) : fMweight m r v = fweight x r v ∧ Sim (tweight x r v) (tMweight m r v) := by
  obtain ⟨hX, hM, e20, e21, e1, e2, e3, e25, e26, e4, e5, e6, e8, e7, hch, hhe, hz9, hpos, hru, hlt⟩ := id S
  obtain ⟨hn, hm, hmk, hys, hpu, hcu, hpl, hwe, hpr, hmi, hwo, hco, hchx⟩ := id hX
  obtain ⟨kn, km, kmk, kys, kpu, kcu, kpl, kwe, kpr, kmi, kwo, kco, kch, khp⟩ := id hM
  unfold fMweight fweight tMweight tweight
  rw [e4]
  refine ⟨rfl, ?_⟩
  by_cases h0 : r < 0 ∨ 2 < r
  · rw [if_pos h0, if_pos h0]
    exact S
  rw [if_neg h0, if_neg h0]
  by_cases h1 : v < 0 ∨ 10 < v
  · rw [if_pos h1, if_pos h1]
    exact S
  rw [if_neg h1, if_neg h1]
  exact ⟨⟨hn, hm, hmk, hys, hpu, hcu, hpl, (fun i => by have := hwe i; rw [up_at]; split <;> omega), hpr, hmi, hwo, hco, hchx⟩, ⟨kn, km, kmk, kys, kpu, kcu, kpl, (fun i => by have := kwe i; rw [up_at]; split <;> omega), kpr, kmi, kwo, kco, kch, khp⟩, e20, e21, e1, e2, e3, e25, e26, (by rw [up_eq, up_eq, e4]), e5, e6, e8, e7, hch, hhe, hz9, hpos, hru, hlt⟩
theorem sim_prize (S : Sim x m) (i v : Int) : fMprize m i v = fprize x i v ∧ Sim (tprize x i v) (tMprize m i v) := by
  obtain ⟨hX, hM, e20, e21, e1, e2, e3, e25, e26, e4, e5, e6, e8, e7, hch, hhe, hz9, hpos, hru, hlt⟩ := id S
  obtain ⟨hn, hm, hmk, hys, hpu, hcu, hpl, hwe, hpr, hmi, hwo, hco, hchx⟩ := id hX
  obtain ⟨kn, km, kmk, kys, kpu, kcu, kpl, kwe, kpr, kmi, kwo, kco, kch, khp⟩ := id hM
  unfold fMprize fprize tMprize tprize
  rw [e5]
  refine ⟨rfl, ?_⟩
  by_cases h0 : i < 0 ∨ 5 < i
  · rw [if_pos h0, if_pos h0]
    exact S
  rw [if_neg h0, if_neg h0]
  by_cases h1 : v < 0 ∨ 1000000 < v
  · rw [if_pos h1, if_pos h1]
    exact S
  rw [if_neg h1, if_neg h1]
  exact ⟨⟨hn, hm, hmk, hys, hpu, hcu, hpl, hwe, (fun i => by have := hpr i; rw [up_at]; split <;> omega), hmi, hwo, hco, hchx⟩, ⟨kn, km, kmk, kys, kpu, kcu, kpl, kwe, (fun i => by have := kpr i; rw [up_at]; split <;> omega), kmi, kwo, kco, kch, khp⟩, e20, e21, e1, e2, e3, e25, e26, e4, (by rw [up_eq, up_eq, e5]), e6, e8, e7, hch, hhe, hz9, hpos, hru, hlt⟩
theorem sim_work (S : Sim x m) (w v : Int) : fMwork m w v = fwork x w v ∧ Sim (twork x w v) (tMwork m w v) := by
  obtain ⟨hX, hM, e20, e21, e1, e2, e3, e25, e26, e4, e5, e6, e8, e7, hch, hhe, hz9, hpos, hru, hlt⟩ := id S
  obtain ⟨hn, hm, hmk, hys, hpu, hcu, hpl, hwe, hpr, hmi, hwo, hco, hchx⟩ := id hX
  obtain ⟨kn, km, kmk, kys, kpu, kcu, kpl, kwe, kpr, kmi, kwo, kco, kch, khp⟩ := id hM
  unfold fMwork fwork tMwork twork
  rw [e6]
  refine ⟨rfl, ?_⟩
  by_cases h0 : w < 0 ∨ 11 < w
  · rw [if_pos h0, if_pos h0]
    exact S
  rw [if_neg h0, if_neg h0]
  by_cases h1 : v < 1 ∨ 60 < v
  · rw [if_pos h1, if_pos h1]
    exact S
  rw [if_neg h1, if_neg h1]
  exact ⟨⟨hn, hm, hmk, hys, hpu, hcu, hpl, hwe, hpr, (fun i => by have := hmi i; rw [up_at]; split <;> omega), hwo, hco, hchx⟩, ⟨kn, km, kmk, kys, kpu, kcu, kpl, kwe, kpr, (fun i => by have := kmi i; rw [up_at]; split <;> omega), kwo, kco, kch, khp⟩, e20, e21, e1, e2, e3, e25, e26, e4, e5, (by rw [up_eq, up_eq, e6]), e8, e7, hch, hhe, hz9, hpos, hru, hlt⟩
theorem sim_rule (S : Sim x m) (w v : Int) : fMrule m w v = frule x w v ∧ Sim (trule x w v) (tMrule m w v) := by
  obtain ⟨hX, hM, e20, e21, e1, e2, e3, e25, e26, e4, e5, e6, e8, e7, hch, hhe, hz9, hpos, hru, hlt⟩ := id S
  obtain ⟨hn, hm, hmk, hys, hpu, hcu, hpl, hwe, hpr, hmi, hwo, hco, hchx⟩ := id hX
  obtain ⟨kn, km, kmk, kys, kpu, kcu, kpl, kwe, kpr, kmi, kwo, kco, kch, khp⟩ := id hM
  unfold fMrule frule tMrule trule
  by_cases h0 : w < 0 ∨ 1 < w
  · rw [if_pos h0, if_pos h0, if_pos h0, if_pos h0]
    exact ⟨rfl, S⟩
  rw [if_neg h0, if_neg h0, if_neg h0, if_neg h0]
  by_cases h1 : (w = 0 ∧ (v < 0 ∨ 2 < v)) ∨ (w = 1 ∧ (v < 1 ∨ 50 < v))
  · rw [if_pos h1, if_pos h1, if_pos h1, if_pos h1]
    exact ⟨rfl, S⟩
  rw [if_neg h1, if_neg h1, if_neg h1, if_neg h1]
  rcases (show w = 0 ∨ w = 1 by omega) with rfl | rfl
  · rw [if_pos rfl, if_pos rfl]
    have a1 : up x 4 0 v 4 1 = x 4 1 := by rw [up_at, if_neg (by omega)]
    have a0 : up x 4 0 v 4 0 = v := by rw [up_at, if_pos rfl]
    have b0 : up m 25 0 v 25 0 = v := by rw [up_at, if_pos rfl]
    exact ⟨e25, ⟨⟨hn, hm, hmk, hys, hpu, (by rw [a0]; omega), (by rw [a1]; exact hpl), hwe, hpr, hmi, hwo, hco, hchx⟩, ⟨kn, km, kmk, kys, kpu, (by rw [b0]; omega), kpl, kwe, kpr, kmi, kwo, kco, kch, khp⟩, e20, e21, e1, e2, e3, (by rw [a0, b0]), (by rw [a1]; exact e26), e4, e5, e6, e8, e7, hch, hhe, hz9, hpos, (fun i => by have := hru i; rw [up_at]; split <;> omega), hlt⟩⟩
  · rw [if_neg (by omega), if_neg (by omega)]
    have a1 : up x 4 1 v 4 1 = v := by rw [up_at, if_pos rfl]
    have a0 : up x 4 1 v 4 0 = x 4 0 := by rw [up_at, if_neg (by omega)]
    have b0 : up m 26 0 v 26 0 = v := by rw [up_at, if_pos rfl]
    exact ⟨e26, ⟨⟨hn, hm, hmk, hys, hpu, (by rw [a0]; exact hcu), (by rw [a1]; omega), hwe, hpr, hmi, hwo, hco, hchx⟩, ⟨kn, km, kmk, kys, kpu, kcu, (by rw [b0]; omega), kwe, kpr, kmi, kwo, kco, kch, khp⟩, e20, e21, e1, e2, e3, (by rw [a0]; exact e25), (by rw [a1, b0]), e4, e5, e6, e8, e7, hch, hhe, hz9, hpos, (fun i => by have := hru i; rw [up_at]; split <;> omega), hlt⟩⟩
theorem sim_programme (S : Sim x m) (p v : Int) : fMprogramme m p v = fprogramme x p v ∧ Sim (tprogramme x p v) (tMprogramme m p v) := by
  obtain ⟨hX, hM, e20, e21, e1, e2, e3, e25, e26, e4, e5, e6, e8, e7, hch, hhe, hz9, hpos, hru, hlt⟩ := id S
  obtain ⟨hn, hm, hmk, hys, hpu, hcu, hpl, hwe, hpr, hmi, hwo, hco, hchx⟩ := id hX
  obtain ⟨kn, km, kmk, kys, kpu, kcu, kpl, kwe, kpr, kmi, kwo, kco, kch, khp⟩ := id hM
  unfold fMprogramme fprogramme tMprogramme tprogramme
  rw [e20, e7, show 3 * p + x 9 p = p * 3 + x 9 p by omega]
  by_cases h0 : p < 0 ∨ x 20 0 ≤ p
  · rw [if_pos h0, if_pos h0, if_pos h0, if_pos h0]
    exact ⟨rfl, S⟩
  rw [if_neg h0, if_neg h0, if_neg h0, if_neg h0]
  by_cases h1 : v < 1 ∨ 4095 < v
  · rw [if_pos h1, if_pos h1, if_pos h1, if_pos h1]
    exact ⟨rfl, S⟩
  rw [if_neg h1, if_neg h1, if_neg h1, if_neg h1]
  have hcp := hco p
  by_cases h2 : 3 ≤ x 9 p
  · rw [if_pos h2, if_pos h2, if_pos (by omega), if_pos (by omega)]
    exact ⟨rfl, S⟩
  rw [if_neg h2, if_neg h2, if_neg (by omega), if_neg (by omega)]
  have u9 : ∀ q, up (up x 8 (p * 3 + x 9 p) v) 9 p (x 9 p + 1) 9 q = if q = p then x 9 p + 1 else x 9 q := fun q => by rw [up_at, up_ne (by decide)]
  have u8 : ∀ z, up (up x 8 (p * 3 + x 9 p) v) 9 p (x 9 p + 1) 8 z = if z = p * 3 + x 9 p then v else x 8 z := fun z => by rw [up_ne (by decide), up_at]
  refine ⟨rfl, ⟨⟨hn, hm, hmk, hys, hpu, hcu, hpl, hwe, hpr, hmi, (fun i => by have := hwo i; rw [u8]; split <;> omega), (fun i => by have := hco i; rw [u9]; split <;> omega), hchx⟩, ⟨kn, km, kmk, kys, kpu, kcu, kpl, kwe, kpr, kmi, (fun i => by have := kwo i; rw [up_ne (by decide), up_at]; split <;> omega), (fun i => by have := kco i; rw [up_at, up_ne (by decide)]; split <;> omega), kch, khp⟩, e20, e21, e1, e2, e3, e25, e26, e4, e5, e6, (by rw [up_ne (by decide), up_eq, up_ne (by decide), up_eq, e8]), (by rw [up_eq, up_eq, up_ne (by decide), up_ne (by decide), e7]), hch, (fun w g1 g2 => ?_), (fun q hq => ?_), (fun q i g1 g2 g3 => ?_), hru, (fun q => ?_)⟩⟩
  · have hh := hhe w g1 g2
    refine hh.trans (sm_congr 0 (fun q g3 g4 => ?_))
    show (if x 10 q = -1 then (0 : Int) else x 8 (q * 3 + x 10 q) / p2 w % 2) = if x 10 q = -1 then 0 else up (up x 8 (p * 3 + x 9 p) v) 9 p (x 9 p + 1) 8 (q * 3 + x 10 q) / p2 w % 2
    have hl := hlt q
    have hc2 := hco q
    have hcx := hchx q
    by_cases hq : x 10 q = -1
    · rw [if_pos hq, if_pos hq]
    · rw [if_neg hq, if_neg hq, u8, if_neg (by
        intro he
        have : q = p := by omega
        subst this
        omega)]
  · rw [u9, if_neg (by
      have : x 20 0 ≤ q := hq
      omega)]
    exact hz9 q hq
  · rw [u9] at g3
    rw [u8]
    split
    · omega
    · next hne =>
      by_cases hq : q = p
      · subst hq
        rw [if_pos rfl] at g3
        exact hpos q i g1 g2 (by omega)
      · rw [if_neg hq] at g3
        exact hpos q i g1 g2 g3
  · have hl := hlt q
    rw [u9]
    show x 10 q < _
    split
    · next hq =>
      rw [hq] at hl
      rw [hq]
      omega
    · exact hl
theorem sim_contest (S : Sim x m) (n k : Int) : fMcontest m n k = fcontest x n k ∧ Sim (tcontest x n k) (tMcontest m n k) := by
  obtain ⟨hX, hM, e20, e21, e1, e2, e3, e25, e26, e4, e5, e6, e8, e7, hch, hhe, hz9, hpos, hru, hlt⟩ := id S
  obtain ⟨hn, hm, hmk, hys, hpu, hcu, hpl, hwe, hpr, hmi, hwo, hco, hchx⟩ := id hX
  obtain ⟨kn, km, kmk, kys, kpu, kcu, kpl, kwe, kpr, kmi, kwo, kco, kch, khp⟩ := id hM
  unfold fMcontest fcontest tMcontest tcontest
  by_cases h0 : n < 1 ∨ 10 < n ∨ k < 1 ∨ 7 < k
  · rw [if_pos h0, if_pos h0, if_pos h0]
    exact ⟨rfl, S⟩
  rw [if_neg h0, if_neg h0, if_neg h0]
  have a20 : (fil (fil (fil (fil (fil (up (up x 20 0 n) 21 0 k) 1 0 210 (-1)) 2 0 210 0) 3 0 70 0) 9 0 10 0) 10 0 10 (-1)) 20 0 = n := rfl
  have a21 : (fil (fil (fil (fil (fil (up (up x 20 0 n) 21 0 k) 1 0 210 (-1)) 2 0 210 0) 3 0 70 0) 9 0 10 0) 10 0 10 (-1)) 21 0 = k := rfl
  have b20 : beg (up (up m 20 0 n) 21 0 k) 20 0 = n := rfl
  have b21 : beg (up (up m 20 0 n) 21 0 k) 21 0 = k := rfl
  have b32 : beg (up (up m 20 0 n) 21 0 k) 32 0 = 0 := rfl
  have w20 : beg (up (up m 20 0 n) 21 0 k) 20 = fun z => if z = 0 then n else m 20 z := by
    rw [show beg (up (up m 20 0 n) 21 0 k) 20 = up (up m 20 0 n) 21 0 k 20 from rfl, up_ne (by decide), up_eq]
  have w21 : beg (up (up m 20 0 n) 21 0 k) 21 = fun z => if z = 0 then k else m 21 z := by
    rw [show beg (up (up m 20 0 n) 21 0 k) 21 = up (up m 20 0 n) 21 0 k 21 from rfl, up_eq, up_ne (by decide)]
  have v20 : (fil (fil (fil (fil (fil (up (up x 20 0 n) 21 0 k) 1 0 210 (-1)) 2 0 210 0) 3 0 70 0) 9 0 10 0) 10 0 10 (-1)) 20 = fun z => if z = 0 then n else x 20 z := by
    rw [show (fil (fil (fil (fil (fil (up (up x 20 0 n) 21 0 k) 1 0 210 (-1)) 2 0 210 0) 3 0 70 0) 9 0 10 0) 10 0 10 (-1)) 20 = up (up x 20 0 n) 21 0 k 20 from rfl, up_ne (by decide), up_eq]
  have v21 : (fil (fil (fil (fil (fil (up (up x 20 0 n) 21 0 k) 1 0 210 (-1)) 2 0 210 0) 3 0 70 0) 9 0 10 0) 10 0 10 (-1)) 21 = fun z => if z = 0 then k else x 21 z := by
    rw [show (fil (fil (fil (fil (fil (up (up x 20 0 n) 21 0 k) 1 0 210 (-1)) 2 0 210 0) 3 0 70 0) 9 0 10 0) 10 0 10 (-1)) 21 = up (up x 20 0 n) 21 0 k 21 from rfl, up_eq, up_ne (by decide)]
  have x10 : ∀ q, (fil (fil (fil (fil (fil (up (up x 20 0 n) 21 0 k) 1 0 210 (-1)) 2 0 210 0) 3 0 70 0) 9 0 10 0) 10 0 10 (-1)) 10 q = if 0 ≤ q ∧ q < 10 then -1 else x 10 q := fun _ => rfl
  have x9 : ∀ q, (fil (fil (fil (fil (fil (up (up x 20 0 n) 21 0 k) 1 0 210 (-1)) 2 0 210 0) 3 0 70 0) 9 0 10 0) 10 0 10 (-1)) 9 q = if 0 ≤ q ∧ q < 10 then 0 else x 9 q := fun _ => rfl
  have x8 : (fil (fil (fil (fil (fil (up (up x 20 0 n) 21 0 k) 1 0 210 (-1)) 2 0 210 0) 3 0 70 0) 9 0 10 0) 10 0 10 (-1)) 8 = x 8 := rfl
  have x1 : ∀ q, (fil (fil (fil (fil (fil (up (up x 20 0 n) 21 0 k) 1 0 210 (-1)) 2 0 210 0) 3 0 70 0) 9 0 10 0) 10 0 10 (-1)) 1 q = if 0 ≤ q ∧ q < 210 then -1 else x 1 q := fun _ => rfl
  have x2 : ∀ q, (fil (fil (fil (fil (fil (up (up x 20 0 n) 21 0 k) 1 0 210 (-1)) 2 0 210 0) 3 0 70 0) 9 0 10 0) 10 0 10 (-1)) 2 q = if 0 ≤ q ∧ q < 210 then 0 else x 2 q := fun _ => rfl
  have x3 : ∀ q, (fil (fil (fil (fil (fil (up (up x 20 0 n) 21 0 k) 1 0 210 (-1)) 2 0 210 0) 3 0 70 0) 9 0 10 0) 10 0 10 (-1)) 3 q = if 0 ≤ q ∧ q < 70 then 0 else x 3 q := fun _ => rfl
  have m1 : ∀ q, beg (up (up m 20 0 n) 21 0 k) 1 q = if 0 ≤ q ∧ q < 210 then -1 else m 1 q := fun _ => rfl
  have m2 : ∀ q, beg (up (up m 20 0 n) 21 0 k) 2 q = if 0 ≤ q ∧ q < 210 then 0 else m 2 q := fun _ => rfl
  have m3 : ∀ q, beg (up (up m 20 0 n) 21 0 k) 3 q = if 0 ≤ q ∧ q < 70 then 0 else m 3 q := fun _ => rfl
  have m7 : ∀ q, beg (up (up m 20 0 n) 21 0 k) 7 q = if 0 ≤ q ∧ q < 10 then 0 else m 7 q := fun _ => rfl
  have hz : ∀ q, q < 0 ∨ 10 ≤ q → x 10 q < 0 ∨ True := fun _ _ => Or.inr trivial
  refine ⟨rfl, ⟨⟨(by rw [a20]; omega), (by rw [a21]; omega), (fun i => by have := hmk i; rw [x1]; split <;> omega), (fun i => by have := hys i; rw [x2]; split <;> omega), (fun i => by have := hpu i; rw [x3]; split <;> omega), hcu, hpl, hwe, hpr, hmi, hwo, (fun i => by have := hco i; rw [x9]; split <;> omega), (fun i => by have := hchx i; rw [x10]; split <;> omega)⟩, ⟨(by rw [b20]; omega), (by rw [b21]; omega), (fun i => by have := kmk i; rw [m1]; split <;> omega), (fun i => by have := kys i; rw [m2]; split <;> omega), (fun i => by have := kpu i; rw [m3]; split <;> omega), kcu, kpl, kwe, kpr, kmi, kwo, (fun i => by have := kco i; rw [m7]; split <;> omega), kch, (Or.inl b32)⟩, (by rw [w20, v20, e20]), (by rw [w21, v21, e21]), (by funext q; rw [m1, x1, e1]), (by funext q; rw [m2, x2, e2]), (by funext q; rw [m3, x3, e3]), e25, e26, e4, e5, e6, e8, (by funext q; rw [m7, x9, e7]), (fun q g1 g2 => ?_), (fun w g1 g2 => ?_), (fun q hq => ?_), (fun q i g1 g2 g3 => ?_), hru, (fun q => ?_)⟩⟩
  · rw [a20] at g2
    unfold chM
    rw [x10, if_pos (by omega), b32, if_neg (by omega)]
  · unfold heM heX
    rw [b32, if_neg (by omega), a20]
    exact (sm_zero 0 (fun q g3 g4 => by rw [x10, if_pos (by omega)])).symm
  · rw [a20] at hq
    rw [x9]
    split
    · rfl
    · next h => exact hz9 q (by omega)
  · rw [x9] at g3
    rw [x8]
    split at g3
    · omega
    · exact hpos q i g1 g2 g3
  · have := hlt q
    rw [x10, x9]
    split <;> omega
theorem sim_pl (S : Sim x m) {lo hi t : Int} (ht : 1 ≤ t ∧ t ≤ 3) : plM m lo hi t = plX x lo hi t := by
  obtain ⟨hX, hM, e20, e21, e1, e2, e3, e25, e26, e4, e5, e6, e8, e7, hch, hhe, hz9, hpos, hru, hlt⟩ := id S
  obtain ⟨hn, hm, hmk, hys, hpu, hcu, hpl, hwe, hpr, hmi, hwo, hco, hchx⟩ := id hX
  obtain ⟨kn, km, kmk, kys, kpu, kcu, kpl, kwe, kpr, kmi, kwo, kco, kch, khp⟩ := id hM
  unfold plM plX
  rw [e20, e6, e7, e8]
  refine (sr_eq hwo hpos ht (x 20 0).toNat 0 _ _ 0 (H00 m) (by omega) ?_ ?_ (by omega) (fun w g1 g2 => ?_)).symm
  · split <;> omega
  · split <;> omega
  · have hH : H00 m w = 0 := if_pos ⟨g1, g2⟩
    have hz : (0 : Int) / p2 w % 2 = 0 := by rw [Int.zero_ediv]; rfl
    have hf : (4095 : Int) / p2 w % 2 = 1 := by
      rcases (show w = 0 ∨ w = 1 ∨ w = 2 ∨ w = 3 ∨ w = 4 ∨ w = 5 ∨ w = 6 ∨ w = 7 ∨ w = 8 ∨ w = 9 ∨ w = 10 ∨ w = 11 by omega) with rfl | rfl | rfl | rfl | rfl | rfl | rfl | rfl | rfl | rfl | rfl | rfl <;> decide
    rw [hH, hz]
    rcases (show t = 1 ∨ t = 2 ∨ t = 3 by omega) with rfl | rfl | rfl
    · rw [if_pos (by omega), if_pos (by omega), hf]
      omega
    · rw [if_pos (by omega), if_neg (by omega), hf, hz]
      omega
    · rw [if_neg (by omega), if_neg (by omega), hz]
      omega
/-- the choices of a plan are programmes of their players -/
theorem sr_ok {F co : Int → Int} : ∀ (k : Nat) (p o t h : Int) (g : Int → Int), srF F co k p o t h = some g → ∀ q, p ≤ q → q < p + k → 0 ≤ g q ∧ g q < co q := by
  intro k
  induction k with
  | zero => intro p o t h g _ q h1 h2; omega
  | succ k ih =>
    intro p o t h g hg q h1 h2
    rw [srF_S] at hg
    have key : ∀ (M : Nat) (i : Int), 0 ≤ i → tr (trF F co k p o t h) M i = some g → 0 ≤ g q ∧ g q < co q := by
      intro M
      induction M with
      | zero => intro i _ hh; cases hh
      | succ M ihm =>
        intro i hi hh
        rw [tr_S] at hh
        cases ha : trF F co k p o t h i with
        | none =>
          rw [ha] at hh
          exact ihm (i + 1) (by omega) hh
        | some g' =>
          rw [ha] at hh
          have hgg : g' = g := Option.some.inj hh
          subst hgg
          unfold trF at ha
          split at ha
          · next hc =>
            cases hs : srF F co k (p + 1) (oI o (F (p * 3 + i))) (oI t (aI o (F (p * 3 + i)))) (oI h (aI t (F (p * 3 + i)))) with
            | none => rw [hs] at ha; cases ha
            | some g2 =>
              rw [hs] at ha
              have hg2 : (fun q => if q = p then i else g2 q) = g' := Option.some.inj ha
              rw [← hg2]
              show 0 ≤ (if q = p then i else g2 q) ∧ (if q = p then i else g2 q) < co q
              by_cases hq : q = p
              · rw [if_pos hq, hq]
                exact ⟨hi, hc.1⟩
              · rw [if_neg hq]
                exact ih _ _ _ _ _ hs q (by omega) (by omega)
          · cases ha
    exact key 3 0 (by omega) hg
theorem sim_planS (S : Sim x m) {lo hi t : Int} {g P H : Int → Int} (ht : 1 ≤ t ∧ t ≤ 3) (hg : plX x lo hi t = some g) (hP : ∀ q, 0 ≤ q → q < m 20 0 → P q = g q) (hPb : ∀ q, -1 ≤ P q ∧ P q ≤ 3) (hH : ∀ w, 0 ≤ w → w < 12 → H w = hsum (m 8) P 0 (m 20 0) w) : Sim (setc (fil x 10 0 10 (-1)) 0 (x 20 0) g) (up (stM m P H) 32 0 1) := by
  obtain ⟨hX, hM, e20, e21, e1, e2, e3, e25, e26, e4, e5, e6, e8, e7, hch, hhe, hz9, hpos, hru, hlt⟩ := id S
  obtain ⟨hn, hm, hmk, hys, hpu, hcu, hpl, hwe, hpr, hmi, hwo, hco, hchx⟩ := id hX
  obtain ⟨kn, km, kmk, kys, kpu, kcu, kpl, kwe, kpr, kmi, kwo, kco, kch, khp⟩ := id hM
  have hok := sr_ok _ _ _ _ _ _ hg
  have b32 : up (stM m P H) 32 0 1 32 0 = 1 := by rw [up_at, if_pos rfl]
  have x10 : ∀ q, setc (fil x 10 0 10 (-1)) 0 (x 20 0) g 10 q = if 0 ≤ q ∧ q < x 20 0 then g q else (if 0 ≤ q ∧ q < 10 then -1 else x 10 q) := fun _ => rfl
  refine ⟨⟨hn, hm, hmk, hys, hpu, hcu, hpl, hwe, hpr, hmi, hwo, hco, (fun i => ?_)⟩, ⟨kn, km, kmk, kys, kpu, kcu, kpl, kwe, kpr, kmi, kwo, kco, hPb, (Or.inr b32)⟩, e20, e21, e1, e2, e3, e25, e26, e4, e5, e6, e8, e7, (fun q g1 g2 => ?_), (fun w g1 g2 => ?_), hz9, hpos, hru, (fun q => ?_)⟩
  · rw [x10]
    have h1 := hchx i
    split
    · next h =>
      have h2 := hok i h.1 (by omega)
      have h3 := hco i
      omega
    · split <;> omega
  · unfold chM
    have g2' : q < x 20 0 := g2
    rw [x10, if_pos ⟨g1, g2'⟩, b32, if_pos rfl]
    exact (hP q g1 (by rw [e20]; exact g2')).symm
  · unfold heM heX
    rw [b32, if_pos rfl]
    show H w = _
    rw [hH w g1 g2, e20, e8]
    refine sm_congr 0 (fun q g3 g4 => ?_)
    have h2 := hok q g3 (by omega)
    have h3 := hP q g3 (by rw [e20]; exact g4)
    show x 8 (3 * q + P q) / p2 w % 2 = if setc (fil x 10 0 10 (-1)) 0 (x 20 0) g 10 q = -1 then 0 else x 8 (q * 3 + setc (fil x 10 0 10 (-1)) 0 (x 20 0) g 10 q) / p2 w % 2
    have e10 : setc (fil x 10 0 10 (-1)) 0 (x 20 0) g 10 q = g q := by rw [x10, if_pos ⟨g3, g4⟩]
    rw [e10, if_neg (by omega), h3, show 3 * q + g q = q * 3 + g q by omega]
  · rw [x10]
    show _ < x 9 q
    have h1 := hlt q
    have h3 := hco q
    split
    · next h => exact (hok q h.1 (by omega)).2
    · split <;> omega
theorem sim_planF (S : Sim x m) {P : Int → Int} (hPb : ∀ q, -1 ≤ P q ∧ P q ≤ 3) : Sim (fil x 10 0 10 (-1)) (up (stM m P (H00 m)) 32 0 0) := by
  obtain ⟨hX, hM, e20, e21, e1, e2, e3, e25, e26, e4, e5, e6, e8, e7, hch, hhe, hz9, hpos, hru, hlt⟩ := id S
  obtain ⟨hn, hm, hmk, hys, hpu, hcu, hpl, hwe, hpr, hmi, hwo, hco, hchx⟩ := id hX
  obtain ⟨kn, km, kmk, kys, kpu, kcu, kpl, kwe, kpr, kmi, kwo, kco, kch, khp⟩ := id hM
  have b32 : up (stM m P (H00 m)) 32 0 0 32 0 = 0 := by rw [up_at, if_pos rfl]
  have x10 : ∀ q, fil x 10 0 10 (-1) 10 q = if 0 ≤ q ∧ q < 10 then -1 else x 10 q := fun _ => rfl
  refine ⟨⟨hn, hm, hmk, hys, hpu, hcu, hpl, hwe, hpr, hmi, hwo, hco, (fun i => ?_)⟩, ⟨kn, km, kmk, kys, kpu, kcu, kpl, kwe, kpr, kmi, kwo, kco, hPb, (Or.inl b32)⟩, e20, e21, e1, e2, e3, e25, e26, e4, e5, e6, e8, e7, (fun q g1 g2 => ?_), (fun w g1 g2 => ?_), hz9, hpos, hru, (fun q => ?_)⟩
  · rw [x10]
    have h1 := hchx i
    split <;> omega
  · unfold chM
    have g2' : q < x 20 0 := g2
    rw [x10, if_pos (by omega), b32, if_neg (by omega)]
  · unfold heM heX
    rw [b32, if_neg (by omega)]
    refine (sm_zero 0 (fun q g3 g4 => ?_)).symm
    have g4' : q < x 20 0 := g4
    show (if fil x 10 0 10 (-1) 10 q = -1 then (0 : Int) else _) = 0
    have e10 : fil x 10 0 10 (-1) 10 q = -1 := by rw [x10, if_pos (by omega)]
    rw [e10, if_pos rfl]
  · rw [x10]
    show _ < x 9 q
    have h1 := hlt q
    have h3 := hco q
    split <;> omega
end Sims

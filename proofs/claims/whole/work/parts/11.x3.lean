/-! the sorted row's sum; the ways as the class reckons them -/
theorem ins_sum {a : Int → Int} {c x : Int} (h : Srt a c) (hc : 0 ≤ c) (hx : 1 ≤ x ∧ x ≤ 100) : sm (ins a x) 0 (c + 1) = sm a 0 c + x := by
  have h1 : ∀ n : Nat, (n : Int) ≤ c → sm (ins a x) 0 n + max x (a (n - 1)) = sm a 0 n + x := by
    intro n
    induction n with
    | zero =>
      intro _
      rw [sm_ge (show ((0 : Nat) : Int) ≤ 0 by omega), sm_ge (show ((0 : Nat) : Int) ≤ 0 by omega)]
      have := h.2.1 (((0 : Nat) : Int) - 1) (by omega)
      omega
    | succ n ih =>
      intro hn
      have h2 := ih (by omega)
      have h3 := h.1 ((n : Int) - 1)
      rw [show (n : Int) - 1 + 1 = n by omega] at h3
      rw [show ((n + 1 : Nat) : Int) = (n : Int) + 1 by omega, sm_last 0 (by omega), sm_last 0 (by omega), show (n : Int) + 1 - 1 = n by omega]
      have h4 : ins a x n = max (a ((n : Int) - 1)) (min (a n) x) := rfl
      rw [h4]
      omega
  have h2 := h1 c.toNat (by omega)
  rw [show ((c.toNat : Nat) : Int) = c by omega] at h2
  rw [sm_last 0 hc]
  have h4 : ins a x c = max (a (c - 1)) (min (a c) x) := rfl
  have h5 := h.2.2.1 c (by omega)
  rw [h4]
  omega
theorem so_sum {v : Int → Int} (hv : Mk v) : ∀ n : Nat, sm (so v n) 0 (cn v n) = su v n := by
  intro n
  induction n with
  | zero =>
    rw [show ((0 : Nat) : Int) = 0 by omega, cn_0]
    rw [sm_ge (by omega)]
    exact (sm_ge (by omega)).symm
  | succ n ih =>
    rw [show (((n + 1 : Nat)) : Int) = (n : Int) + 1 by omega, so_S (by omega), cn_S (by omega), su_S (by omega)]
    by_cases h : v n = -1
    · rw [if_pos h, if_pos h, if_pos h, Int.add_zero, Int.add_zero]
      exact ih
    · rw [if_neg h, if_neg h, if_neg h]
      have := hv n
      rw [ins_sum (so_srt hv n) (cn_bd (by omega)).1 (by omega), ih]
theorem so_sum' {v : Int → Int} (hv : Mk v) {J : Int} (h : 0 ≤ J) : sm (so v J) 0 (cn v J) = su v J := by
  have := so_sum hv J.toNat
  rwa [show ((J.toNat : Nat) : Int) = J by omega] at this
section Ways
variable {V Y : Int → Int → Int} {cu pl n J p : Int}
theorem sc_n (h : cn (V p) J = 0) (w : Int) : sc V Y cu pl n J w p = -1 := by
  unfold sc
  rw [if_pos h]
theorem sc_0 (h : cn (V p) J ≠ 0) : sc V Y cu pl n J 0 p = 176400 / cn (V p) J * su (V p) J := by
  unfold sc
  rw [if_neg h]
  rfl
theorem sc_1 (h : cn (V p) J ≠ 0) : sc V Y cu pl n J 1 p = 176400 / (cn (V p) J - 2 * ctf (V p) cu J) * sm (so (V p) J) (ctf (V p) cu J) (cn (V p) J - ctf (V p) cu J) := by
  unfold sc
  rw [if_neg h]
  rfl
theorem sc_2 (h : cn (V p) J ≠ 0) : sc V Y cu pl n J 2 p = 88200 * (so (V p) J ((cn (V p) J - 1) / 2) + so (V p) J (cn (V p) J / 2)) := by
  unfold sc
  rw [if_neg h]
  rfl
theorem sc_3 (h : cn (V p) J ≠ 0) : sc V Y cu pl n J 3 p = 176400 / cn (V p) J * yn (V p) (Y p) J := by
  unfold sc
  rw [if_neg h]
  rfl
theorem sc_4 (h : cn (V p) J ≠ 0) : sc V Y cu pl n J 4 p = prs V n J p := by
  unfold sc
  rw [if_neg h]
  rfl
theorem sc_5 (h : cn (V p) J ≠ 0) : sc V Y cu pl n J 5 p = 176400 / (cn (V p) J * cn (V p) J) * sm (plf (V p) pl J) 0 (cn (V p) J) := by
  unfold sc
  rw [if_neg h]
  rfl
end Ways
theorem w0_eq {v a : Int → Int} {c J : Int} (hv : Mk v) (hJ : 0 ≤ J ∧ J ≤ 7) (hc : c = cn v J) (h1 : 1 ≤ c) (hz : ∀ x : Int, 0 ≤ x → x < c → a x = so v J x) : (if c ≤ 0 then -1 else 176400 * sm a 0 c / (c - 0)) = 176400 / cn v J * su v J := by
  have hb := cn_bd (v := v) hJ.1
  rw [if_neg (by omega), show c - 0 = c by omega, sm_congr 0 hz, hc, so_sum' hv hJ.1, div_sum (by omega)]
theorem w1_eq {v a : Int → Int} {c cu J : Int} (hJ : 0 ≤ J ∧ J ≤ 7) (hcu : 0 ≤ cu) (hc : c = cn v J) (h1 : 1 ≤ c) (hz : ∀ x : Int, 0 ≤ x → x < c → a x = so v J x) : 176400 * sm a (if 2 * cu < c then cu else 0) (c - (if 2 * cu < c then cu else 0)) / (c - 2 * (if 2 * cu < c then cu else 0)) = 176400 / (cn v J - 2 * ctf v cu J) * sm (so v J) (ctf v cu J) (cn v J - ctf v cu J) := by
  have hb := cn_bd (v := v) hJ.1
  subst hc
  have e : ctf v cu J = if 2 * cu < cn v J then cu else 0 := rfl
  rw [← e]
  have hk : 0 ≤ ctf v cu J ∧ 2 * ctf v cu J < cn v J := by
    rw [e]
    split <;> omega
  rw [sm_congr _ (fun x h2 h3 => hz x (by omega) (by omega)), div_sum (by omega)]
theorem w5_eq {v a : Int → Int} {c pl J : Int} (hv : Mk v) (hJ : 0 ≤ J ∧ J ≤ 7) (hc : c = cn v J) (h1 : 1 ≤ c) (hz : ∀ x : Int, 0 ≤ x → x < c → a x = so v J x) : 176400 / (c * c) * sm (fun i => min (sm a 0 c + c * pl) (max (sm a 0 c - c * pl) (c * a i))) 0 c = 176400 / (cn v J * cn v J) * sm (plf v pl J) 0 (cn v J) := by
  have e : sm a 0 c = su v J := by rw [sm_congr 0 hz, hc, so_sum' hv hJ.1]
  rw [e, ← hc]
  congr 1
  refine sm_congr 0 (fun x h2 h3 => ?_)
  show min (su v J + c * pl) (max (su v J - c * pl) (c * a x)) = min (su v J + cn v J * pl) (max (su v J - cn v J * pl) (cn v J * so v J x))
  rw [hz x h2 h3, ← hc]
def scX (τ : Sf) (r w p : Int) : Int := sc (VV τ r) (YY τ r) (τ 4 0) (τ 4 1) (τ 20 0) (τ 21 0) w p

set_option maxHeartbeats 4000000 in
set_option maxRecDepth 100000 in
theorem c_X0_pulledMean {E : Ev} {d : Nat} {τ ζ : Sf} {Q : Option Value → Sf → Sf → Prop} {c : Int} (hI : InvX τ) (hc : 1 ≤ c ∧ c ≤ 7) (hz : ∀ x : Int, 0 ≤ x → x < c → 1 ≤ ζ 11 x ∧ ζ 11 x ≤ 100) (hQ : ∀ z : Int, z = 176400 / (c * c) * sm (fun i => min ((sm (ζ 11) 0 c) + c * τ 4 1) (max ((sm (ζ 11) 0 c) - c * τ 4 1) (c * ζ 11 i))) 0 c → Q (some (.int (zI z))) τ ζ) : C E GX kX0_pulledMean (d + 1) [.ref (eAd E 0), .int (zI c)] τ ζ Q := by
  refine C_of (by decide) rfl rfl ?_
  show R E GX kX0_pulledMean (d + 1) 0 [some (.ref (eAd E 0)), some (.int (zI c)), none, none, none, none, none] [] τ ζ Q
  obtain ⟨hn, hm, hmk, hys, hpu, hcu, hpl, hwe, hpr, hmi, hwo, hco, hch⟩ := id hI
  have hsb := sm_bd (f := ζ 11) (lo := 0) (hi := 100) (b := c) 0 (fun x h1 h2 => by have := hz x h1 h2; omega) (by omega)
  have hcp := mul_bd (a := c) (b := τ 4 1) (A := 7) (B := 50) (by omega) (by omega)
  have hcc := mul_bd (a := c) (b := c) (A := 7) (B := 7) (by omega) (by omega)
  have hc1 : 1 ≤ c * c := by
    have := Int.mul_le_mul (show (1:Int) ≤ c by omega) (show (1:Int) ≤ c by omega) (by omega) (by omega)
    omega
  have loop : ∀ (N : Nat) (i s : Int), (c - i).toNat = N → 0 ≤ i → i ≤ c → s + sm (fun i => min ((sm (ζ 11) 0 c) + c * τ 4 1) (max ((sm (ζ 11) 0 c) - c * τ 4 1) (c * ζ 11 i))) i c = sm (fun i => min ((sm (ζ 11) 0 c) + c * τ 4 1) (max ((sm (ζ 11) 0 c) - c * τ 4 1) (c * ζ 11 i))) 0 c → R E GX kX0_pulledMean (d + 1) 43 [some (.ref (eAd E 0)), some (.int (zI c)), some (.int (zI ((sm (ζ 11) 0 c)))), some (.int (zI (((sm (ζ 11) 0 c) - c * τ 4 1)))), some (.int (zI (((sm (ζ 11) 0 c) + c * τ 4 1)))), some (.int (zI s)), some (.int (zI i))] [] τ ζ Q := by
    refine st_ind (fun N ih => ?_)
    intro i s hN hi hi2 hs
    refine R_iload dX0_pulledMean_43 rfl ?_
    refine R_iload_n dX0_pulledMean_45 rfl ?_
    refine R_icmp_ge (tgt := 78) (by omega) dX0_pulledMean_46 (by decide) (fun c46 => ?_) (fun c46 => ?_)
    · refine R_ldc 176400 dX0_pulledMean_78 cnX0_pulledMean_196 rfl ?_
      refine R_iload_n dX0_pulledMean_80 rfl ?_
      refine R_iload_n dX0_pulledMean_81 rfl ?_
      refine R_imul dX0_pulledMean_82 ?_
      refine R_idiv (by omega) dX0_pulledMean_83 ?_
      refine R_iload dX0_pulledMean_84 rfl ?_
      refine R_imul dX0_pulledMean_86 ?_
      refine R_iret rfl dX0_pulledMean_87 ?_
      rw [sm_ge (by omega)] at hs
      exact hQ _ (by rw [show s = sm (fun i => min ((sm (ζ 11) 0 c) + c * τ 4 1) (max ((sm (ζ 11) 0 c) - c * τ 4 1) (c * ζ 11 i))) 0 c by omega])
    · have hzi := hz i (by omega) (by omega)
      have hci := mul_bd (a := c) (b := ζ 11 i) (A := 7) (B := 100) (by omega) (by omega)
      refine R_iload dX0_pulledMean_49 rfl ?_
      refine R_iload dX0_pulledMean_51 rfl ?_
      refine R_iload_n dX0_pulledMean_53 rfl ?_
      refine R_iload_n dX0_pulledMean_54 rfl ?_
      refine R_aload_n dX0_pulledMean_55 rfl ?_
      refine R_getR fX0_pulledMean_47 dX0_pulledMean_56 ?_
      refine R_iload dX0_pulledMean_59 rfl ?_
      refine R_ialds (q := 11) rfl rfl (by omega) rfl dX0_pulledMean_61 ?_
      refine R_imul dX0_pulledMean_62 ?_
      refine R_mmax (by omega) dX0_pulledMean_63 (by decide +kernel) (by decide +kernel) (by decide +kernel) (by decide +kernel) (Nat.le_of_ble_eq_true rfl) ?_
      refine R_mmin (by omega) dX0_pulledMean_66 (by decide +kernel) (by decide +kernel) (by decide +kernel) (by decide +kernel) (Nat.le_of_ble_eq_true rfl) ?_
      refine R_iadd dX0_pulledMean_69 ?_
      refine R_istore dX0_pulledMean_70 rfl rfl ?_
      refine R_iinc dX0_pulledMean_72 rfl rfl rfl ?_
      refine R_goto (tgt := 43) dX0_pulledMean_75 (by decide) ?_
      exact ih (c - (i + 1)).toNat (by omega) (i + 1) _ rfl (by omega) (by omega) (by rw [sm_lt (by omega)] at hs; omega)
  refine R_iload_n dX0_pulledMean_0 rfl ?_
  refine R_iconst dX0_pulledMean_1 ?_
  refine R_icmp_ge (tgt := 7) (by omega) dX0_pulledMean_2 (by decide) (fun c2 => ?_) (fun c2 => ?_)
  · refine R_aload_n dX0_pulledMean_7 rfl ?_
    refine R_iconst dX0_pulledMean_8 ?_
    refine R_iload_n dX0_pulledMean_9 rfl ?_
    refine R_callV2 (k2 := kX0_sumBetween) dX0_pulledMean_10 rfl gX0_pulledMean_X0_sumBetween kkX0_sumBetween rfl rfl (Nat.le_of_ble_eq_true rfl) (c_X0_sumBetween (by omega) (fun r10 h10 => ?_))
    subst h10
    show R _ _ _ _ 13 _ [_] _ _ _
    refine R_istore_n dX0_pulledMean_13 rfl rfl ?_
    refine R_iload_n dX0_pulledMean_14 rfl ?_
    refine R_iload_n dX0_pulledMean_15 rfl ?_
    refine R_aload_n dX0_pulledMean_16 rfl ?_
    refine R_getR fX0_pulledMean_26 dX0_pulledMean_17 ?_
    refine R_iconst dX0_pulledMean_20 ?_
    refine R_iald (q := 4) rfl rfl (by omega) rfl dX0_pulledMean_21 ?_
    refine R_imul dX0_pulledMean_22 ?_
    refine R_isub dX0_pulledMean_23 ?_
    refine R_istore_n dX0_pulledMean_24 rfl rfl ?_
    refine R_iload_n dX0_pulledMean_25 rfl ?_
    refine R_iload_n dX0_pulledMean_26 rfl ?_
    refine R_aload_n dX0_pulledMean_27 rfl ?_
    refine R_getR fX0_pulledMean_26 dX0_pulledMean_28 ?_
    refine R_iconst dX0_pulledMean_31 ?_
    refine R_iald (q := 4) rfl rfl (by omega) rfl dX0_pulledMean_32 ?_
    refine R_imul dX0_pulledMean_33 ?_
    refine R_iadd dX0_pulledMean_34 ?_
    refine R_istore dX0_pulledMean_35 rfl rfl ?_
    refine R_iconst dX0_pulledMean_37 ?_
    refine R_istore dX0_pulledMean_38 rfl rfl ?_
    refine R_iconst dX0_pulledMean_40 ?_
    refine R_istore dX0_pulledMean_41 rfl rfl ?_
    exact loop _ 0 0 rfl (by omega) (by omega) (by omega)
  · refine R_iconst dX0_pulledMean_5 ?_
    refine R_iret rfl dX0_pulledMean_6 ?_
    omega

set_option maxHeartbeats 4000000 in
set_option maxRecDepth 100000 in
theorem c_X0_countYeses {E : Ev} {d : Nat} {τ ζ : Sf} {Q : Option Value → Sf → Sf → Prop} {r p : Int} (hI : InvX τ) (hr : 0 ≤ r ∧ r < 3) (hp : 0 ≤ p ∧ p < τ 20 0) (hQ : ∀ z : Int, z = yn (VV τ r p) (YY τ r p) (τ 21 0) → Q (some (.int (zI z))) τ ζ) : C E GX kX0_countYeses (d + 3) [.ref (eAd E 0), .int (zI r), .int (zI p)] τ ζ Q := by
  refine C_of (by decide) rfl rfl ?_
  show R E GX kX0_countYeses (d + 3) 0 [some (.ref (eAd E 0)), some (.int (zI r)), some (.int (zI p)), none, none] [] τ ζ Q
  obtain ⟨hn, hm, hmk, hys, hpu, hcu, hpl, hwe, hpr, hmi, hwo, hco, hch⟩ := id hI
  have loop : ∀ (N : Nat) (j s : Int), (τ 21 0 - j).toNat = N → 0 ≤ j → j ≤ τ 21 0 → s + sm (fun j => if VV τ r p j = -1 then 0 else YY τ r p j) j (τ 21 0) = yn (VV τ r p) (YY τ r p) (τ 21 0) → R E GX kX0_countYeses (d + 3) 5 [some (.ref (eAd E 0)), some (.int (zI r)), some (.int (zI p)), some (.int (zI s)), some (.int (zI j))] [] τ ζ Q := by
    refine st_ind (fun N ih => ?_)
    intro j s hN hj hj2 hs
    have hb := VV_mk hI r p j
    refine R_iload dX0_countYeses_5 rfl ?_
    refine R_aload_n dX0_countYeses_7 rfl ?_
    refine R_getI 21 fX0_countYeses_13 rfl rfl dX0_countYeses_8 ?_
    refine R_icmp_ge (tgt := 47) (by omega) dX0_countYeses_11 (by decide) (fun c11 => ?_) (fun c11 => ?_)
    · refine R_iload_n dX0_countYeses_47 rfl ?_
      refine R_iret rfl dX0_countYeses_48 ?_
      rw [sm_ge (by omega)] at hs
      exact hQ _ (by omega)
    · refine R_aload_n dX0_countYeses_14 rfl ?_
      refine R_iload_n dX0_countYeses_15 rfl ?_
      refine R_iload dX0_countYeses_16 rfl ?_
      refine R_iload_n dX0_countYeses_18 rfl ?_
      refine R_callV3 (k2 := kX0_countedMark) dX0_countYeses_19 rfl gX0_countYeses_X0_countedMark kkX0_countedMark rfl rfl (Nat.le_of_ble_eq_true rfl) (c_X0_countedMark hI (by omega) (by omega) (by omega) (fun r19 h19 => ?_))
      subst h19
      show R _ _ _ _ 22 _ [_] _ _ _
      refine R_iconst dX0_countYeses_22 ?_
      refine R_icmp_eq (tgt := 41) (by omega) dX0_countYeses_23 (by decide) (fun c23 => ?_) (fun c23 => ?_)
      · refine R_iinc dX0_countYeses_41 rfl rfl rfl ?_
        refine R_goto (tgt := 5) dX0_countYeses_44 (by decide) ?_
        rw [sm_lt (by omega)] at hs
        refine ih (τ 21 0 - (j + 1)).toNat (by omega) (j + 1) _ rfl (by omega) (by omega) ?_
        first
        | (rw [if_pos (show VV τ r p j = -1 from c23)] at hs
           omega)
        | (rw [if_neg (show ¬ VV τ r p j = -1 from c23)] at hs
           have e : YY τ r p j = τ 2 ((r * 7 + j) * 10 + p) := rfl
           omega)
      · refine R_iload_n dX0_countYeses_26 rfl ?_
        refine R_aload_n dX0_countYeses_27 rfl ?_
        refine R_getR fX0_countYeses_20 dX0_countYeses_28 ?_
        refine R_iload_n dX0_countYeses_31 rfl ?_
        refine R_iload dX0_countYeses_32 rfl ?_
        refine R_iload_n dX0_countYeses_34 rfl ?_
        refine R_callS3 (k2 := kX0_cellOf) dX0_countYeses_35 rfl gX0_countYeses_X0_cellOf kkX0_cellOf (Nat.le_of_ble_eq_true rfl) (c_X0_cellOf (fun r35 h35 => ?_))
        subst h35
        show R _ _ _ _ 38 _ [_, _, _] _ _ _
        refine R_iald (q := 2) rfl rfl (by omega) rfl dX0_countYeses_38 ?_
        refine R_iadd dX0_countYeses_39 ?_
        refine R_istore_n dX0_countYeses_40 rfl rfl ?_
        refine R_iinc dX0_countYeses_41 rfl rfl rfl ?_
        refine R_goto (tgt := 5) dX0_countYeses_44 (by decide) ?_
        rw [sm_lt (by omega)] at hs
        refine ih (τ 21 0 - (j + 1)).toNat (by omega) (j + 1) _ rfl (by omega) (by omega) ?_
        first
        | (rw [if_pos (show VV τ r p j = -1 from c23)] at hs
           omega)
        | (rw [if_neg (show ¬ VV τ r p j = -1 from c23)] at hs
           have e : YY τ r p j = τ 2 ((r * 7 + j) * 10 + p) := rfl
           omega)
  refine R_iconst dX0_countYeses_0 ?_
  refine R_istore_n dX0_countYeses_1 rfl rfl ?_
  refine R_iconst dX0_countYeses_2 ?_
  refine R_istore dX0_countYeses_3 rfl rfl ?_
  exact loop _ 0 0 rfl (by omega) (by omega) (by unfold yn; omega)

set_option maxHeartbeats 4000000 in
set_option maxRecDepth 100000 in
theorem c_J6_compare_7cf53 {E : Ev} {d : Nat} {τ ζ : Sf} {Q : Option Value → Sf → Sf → Prop} {a b : Int} (hr : (-2147483648 ≤ a ∧ a < 2147483648) ∧ (-2147483648 ≤ b ∧ b < 2147483648)) (hQ : ∀ z : Int, z = sg (a - b) → Q (some (.int (zI z))) τ ζ) : C E GX kJ6_compare_7cf53 d [.int (zI a), .int (zI b)] τ ζ Q := by
  refine C_of (by decide) rfl rfl ?_
  show R E GX kJ6_compare_7cf53 d 0 [some (.int (zI a)), some (.int (zI b))] [] τ ζ Q
  refine R_iload_n dJ6_compare_7cf53_0 rfl ?_
  refine R_iload_n dJ6_compare_7cf53_1 rfl ?_
  refine R_icmp_ge (tgt := 9) (by omega) dJ6_compare_7cf53_2 (by decide) (fun c2 => ?_) (fun c2 => ?_)
  · refine R_iload_n dJ6_compare_7cf53_9 rfl ?_
    refine R_iload_n dJ6_compare_7cf53_10 rfl ?_
    refine R_icmp_ne (tgt := 18) (by omega) dJ6_compare_7cf53_11 (by decide) (fun c11 => ?_) (fun c11 => ?_)
    · refine R_iconst dJ6_compare_7cf53_18 ?_
      refine R_iret rfl dJ6_compare_7cf53_19 ?_
      exact hQ _ (by unfold sg; split <;> (try split) <;> omega)
    · refine R_iconst dJ6_compare_7cf53_14 ?_
      refine R_goto (tgt := 19) dJ6_compare_7cf53_15 (by decide) ?_
      refine R_iret rfl dJ6_compare_7cf53_19 ?_
      exact hQ _ (by unfold sg; split <;> (try split) <;> omega)
  · refine R_iconst dJ6_compare_7cf53_5 ?_
    refine R_goto (tgt := 19) dJ6_compare_7cf53_6 (by decide) ?_
    refine R_iret rfl dJ6_compare_7cf53_19 ?_
    exact hQ _ (by unfold sg; split <;> (try split) <;> omega)

set_option maxHeartbeats 4000000 in
set_option maxRecDepth 100000 in
theorem c_X0_duel {E : Ev} {d : Nat} {τ ζ : Sf} {Q : Option Value → Sf → Sf → Prop} {r p q : Int} (hI : InvX τ) (hr : 0 ≤ r ∧ r < 3) (hp : 0 ≤ p ∧ p < τ 20 0) (hq : 0 ≤ q ∧ q < τ 20 0) (hQ : ∀ z : Int, z = dl (VV τ r p) (VV τ r q) (τ 21 0) → Q (some (.int (zI z))) τ ζ) : C E GX kX0_duel (d + 3) [.ref (eAd E 0), .int (zI r), .int (zI p), .int (zI q)] τ ζ Q := by
  refine C_of (by decide) rfl rfl ?_
  show R E GX kX0_duel (d + 3) 0 [some (.ref (eAd E 0)), some (.int (zI r)), some (.int (zI p)), some (.int (zI q)), none, none, none, none] [] τ ζ Q
  obtain ⟨hn, hm, hmk, hys, hpu, hcu, hpl, hwe, hpr, hmi, hwo, hco, hch⟩ := id hI
  have hsb := sm_bd (f := (fun j => if VV τ r p j = -1 ∨ VV τ r q j = -1 then 0 else sg (VV τ r p j - VV τ r q j))) (lo := -1) (hi := 1) (b := τ 21 0) 0 (fun x _ _ => by show -1 ≤ ite _ _ _ ∧ ite _ _ _ ≤ 1; have := sg_bd (VV τ r p x - VV τ r q x); split <;> omega) (by omega)
  have loop : ∀ (N : Nat) (j s : Int) (o1 o2 : Option Value), (τ 21 0 - j).toNat = N → 0 ≤ j → j ≤ τ 21 0 → okS 6 [some (.ref (eAd E 0)), some (.int (zI r)), some (.int (zI p)), some (.int (zI q)), some (.int (zI s)), some (.int (zI j)), o1, o2] = true → okS 7 [some (.ref (eAd E 0)), some (.int (zI r)), some (.int (zI p)), some (.int (zI q)), some (.int (zI s)), some (.int (zI j)), none, o2] = true → s + sm (fun j => if VV τ r p j = -1 ∨ VV τ r q j = -1 then 0 else sg (VV τ r p j - VV τ r q j)) j (τ 21 0) = sm (fun j => if VV τ r p j = -1 ∨ VV τ r q j = -1 then 0 else sg (VV τ r p j - VV τ r q j)) 0 (τ 21 0) → R E GX kX0_duel (d + 3) 6 [some (.ref (eAd E 0)), some (.int (zI r)), some (.int (zI p)), some (.int (zI q)), some (.int (zI s)), some (.int (zI j)), o1, o2] [] τ ζ Q := by
    refine st_ind (fun N ih => ?_)
    intro j s o1 o2 hN hj hj2 ho1 ho2 hs
    have hb := VV_mk hI r p j
    have hb2 := VV_mk hI r q j
    refine R_iload dX0_duel_6 rfl ?_
    refine R_aload_n dX0_duel_8 rfl ?_
    refine R_getI 21 fX0_duel_13 rfl rfl dX0_duel_9 ?_
    refine R_icmp_ge (tgt := 65) (by omega) dX0_duel_12 (by decide) (fun c12 => ?_) (fun c12 => ?_)
    · rw [sm_ge (by omega)] at hs
      refine R_iload dX0_duel_65 rfl ?_
      refine R_iconst dX0_duel_67 ?_
      refine R_callS2 (k2 := kJ6_compare_7cf53) dX0_duel_68 rfl gX0_duel_J6_compare_7cf53 kkJ6_compare_7cf53 (Nat.le_of_ble_eq_true rfl) (c_J6_compare_7cf53 (by omega) (fun r68 h68 => ?_))
      subst h68
      show R _ _ _ _ 71 _ [_] _ _ _
      refine R_iret rfl dX0_duel_71 ?_
      exact hQ _ (by unfold dl; congr 1 <;> omega)
    · refine R_aload_n dX0_duel_15 rfl ?_
      refine R_iload_n dX0_duel_16 rfl ?_
      refine R_iload dX0_duel_17 rfl ?_
      refine R_iload_n dX0_duel_19 rfl ?_
      refine R_callV3 (k2 := kX0_countedMark) dX0_duel_20 rfl gX0_duel_X0_countedMark kkX0_countedMark rfl rfl (Nat.le_of_ble_eq_true rfl) (c_X0_countedMark hI (by omega) (by omega) (by omega) (fun r20 h20 => ?_))
      subst h20
      show R _ _ _ _ 23 _ [_] _ _ _
      refine R_istore dX0_duel_23 rfl rfl ?_
      refine R_aload_n dX0_duel_25 rfl ?_
      refine R_iload_n dX0_duel_26 rfl ?_
      refine R_iload dX0_duel_27 rfl ?_
      refine R_iload_n dX0_duel_29 rfl ?_
      refine R_callV3 (k2 := kX0_countedMark) dX0_duel_30 rfl gX0_duel_X0_countedMark kkX0_countedMark rfl rfl (Nat.le_of_ble_eq_true rfl) (c_X0_countedMark hI (by omega) (by omega) (by omega) (fun r30 h30 => ?_))
      subst h30
      show R _ _ _ _ 33 _ [_] _ _ _
      refine R_istore dX0_duel_33 rfl rfl ?_
      refine R_iload dX0_duel_35 rfl ?_
      refine R_iconst dX0_duel_37 ?_
      refine R_icmp_eq (tgt := 59) (by omega) dX0_duel_38 (by decide) (fun c38 => ?_) (fun c38 => ?_)
      · refine R_iinc dX0_duel_59 rfl rfl rfl ?_
        refine R_goto (tgt := 6) dX0_duel_62 (by decide) ?_
        rw [sm_lt (by omega)] at hs
        refine ih (τ 21 0 - (j + 1)).toNat (by omega) (j + 1) _ _ _ rfl (by omega) (by omega) rfl rfl ?_
        first
        | (rw [if_neg (show ¬ (VV τ r p j = -1 ∨ VV τ r q j = -1) by omega)] at hs
           omega)
        | (rw [if_pos (show VV τ r p j = -1 ∨ VV τ r q j = -1 by omega)] at hs
           omega)
      · refine R_iload dX0_duel_41 rfl ?_
        refine R_iconst dX0_duel_43 ?_
        refine R_icmp_eq (tgt := 59) (by omega) dX0_duel_44 (by decide) (fun c44 => ?_) (fun c44 => ?_)
        · refine R_iinc dX0_duel_59 rfl rfl rfl ?_
          refine R_goto (tgt := 6) dX0_duel_62 (by decide) ?_
          rw [sm_lt (by omega)] at hs
          refine ih (τ 21 0 - (j + 1)).toNat (by omega) (j + 1) _ _ _ rfl (by omega) (by omega) rfl rfl ?_
          first
          | (rw [if_neg (show ¬ (VV τ r p j = -1 ∨ VV τ r q j = -1) by omega)] at hs
             omega)
          | (rw [if_pos (show VV τ r p j = -1 ∨ VV τ r q j = -1 by omega)] at hs
             omega)
        · refine R_iload dX0_duel_47 rfl ?_
          refine R_iload dX0_duel_49 rfl ?_
          refine R_iload dX0_duel_51 rfl ?_
          refine R_callS2 (k2 := kJ6_compare_7cf53) dX0_duel_53 rfl gX0_duel_J6_compare_7cf53 kkJ6_compare_7cf53 (Nat.le_of_ble_eq_true rfl) (c_J6_compare_7cf53 (by omega) (fun r53 h53 => ?_))
          subst h53
          show R _ _ _ _ 56 _ [_, _] _ _ _
          refine R_iadd dX0_duel_56 ?_
          refine R_istore dX0_duel_57 rfl rfl ?_
          refine R_iinc dX0_duel_59 rfl rfl rfl ?_
          refine R_goto (tgt := 6) dX0_duel_62 (by decide) ?_
          rw [sm_lt (by omega)] at hs
          refine ih (τ 21 0 - (j + 1)).toNat (by omega) (j + 1) _ _ _ rfl (by omega) (by omega) rfl rfl ?_
          first
          | (rw [if_neg (show ¬ (VV τ r p j = -1 ∨ VV τ r q j = -1) by omega)] at hs
             omega)
          | (rw [if_pos (show VV τ r p j = -1 ∨ VV τ r q j = -1 by omega)] at hs
             omega)
  refine R_iconst dX0_duel_0 ?_
  refine R_istore dX0_duel_1 rfl rfl ?_
  refine R_iconst dX0_duel_3 ?_
  refine R_istore dX0_duel_4 rfl rfl ?_
  exact loop _ 0 0 none none rfl (by omega) (by omega) rfl rfl (by omega)

set_option maxHeartbeats 4000000 in
set_option maxRecDepth 100000 in
theorem c_X0_pairScore {E : Ev} {d : Nat} {τ ζ : Sf} {Q : Option Value → Sf → Sf → Prop} {r p : Int} (hI : InvX τ) (hr : 0 ≤ r ∧ r < 3) (hp : 0 ≤ p ∧ p < τ 20 0) (hQ : ∀ z : Int, z = prs (VV τ r) (τ 20 0) (τ 21 0) p → Q (some (.int (zI z))) τ ζ) : C E GX kX0_pairScore (d + 4) [.ref (eAd E 0), .int (zI r), .int (zI p)] τ ζ Q := by
  refine C_of (by decide) rfl rfl ?_
  show R E GX kX0_pairScore (d + 4) 0 [some (.ref (eAd E 0)), some (.int (zI r)), some (.int (zI p)), none, none] [] τ ζ Q
  obtain ⟨hn, hm, hmk, hys, hpu, hcu, hpl, hwe, hpr, hmi, hwo, hco, hch⟩ := id hI
  have loop : ∀ (N : Nat) (q s : Int), (τ 20 0 - q).toNat = N → 0 ≤ q → q ≤ τ 20 0 → s + sm (fun q => if q = p ∨ cn (VV τ r q) (τ 21 0) = 0 then 0 else 1 + dl (VV τ r p) (VV τ r q) (τ 21 0)) q (τ 20 0) = prs (VV τ r) (τ 20 0) (τ 21 0) p → R E GX kX0_pairScore (d + 4) 5 [some (.ref (eAd E 0)), some (.int (zI r)), some (.int (zI p)), some (.int (zI s)), some (.int (zI q))] [] τ ζ Q := by
    refine st_ind (fun N ih => ?_)
    intro q s hN hj hj2 hs
    refine R_iload dX0_pairScore_5 rfl ?_
    refine R_aload_n dX0_pairScore_7 rfl ?_
    refine R_getI 20 fX0_pairScore_7 rfl rfl dX0_pairScore_8 ?_
    refine R_icmp_ge (tgt := 49) (by omega) dX0_pairScore_11 (by decide) (fun c11 => ?_) (fun c11 => ?_)
    · refine R_iload_n dX0_pairScore_49 rfl ?_
      refine R_iret rfl dX0_pairScore_50 ?_
      rw [sm_ge (by omega)] at hs
      exact hQ _ (by omega)
    · refine R_iload dX0_pairScore_14 rfl ?_
      refine R_iload_n dX0_pairScore_16 rfl ?_
      refine R_icmp_eq (tgt := 43) (by omega) dX0_pairScore_17 (by decide) (fun c17 => ?_) (fun c17 => ?_)
      · refine R_iinc dX0_pairScore_43 rfl rfl rfl ?_
        refine R_goto (tgt := 5) dX0_pairScore_46 (by decide) ?_
        rw [sm_lt (by omega)] at hs
        refine ih (τ 20 0 - (q + 1)).toNat (by omega) (q + 1) _ rfl (by omega) (by omega) ?_
        first
        | (rw [if_neg (show ¬ (q = p ∨ cn (VV τ r q) (τ 21 0) = 0) by omega)] at hs
           omega)
        | (rw [if_pos (show q = p ∨ cn (VV τ r q) (τ 21 0) = 0 by omega)] at hs
           omega)
      · refine R_aload_n dX0_pairScore_20 rfl ?_
        refine R_iload_n dX0_pairScore_21 rfl ?_
        refine R_iload dX0_pairScore_22 rfl ?_
        refine R_callV2 (k2 := kX0_isMarked) dX0_pairScore_24 rfl gX0_pairScore_X0_isMarked kkX0_isMarked rfl rfl (Nat.le_of_ble_eq_true rfl) (c_X0_isMarked hI (by omega) (by omega) (fun b24 => ?_) (fun b24 => ?_))
        · show R _ _ _ _ 27 _ [_] _ _ _
          refine R_if_eq (tgt := 43) (by decide) dX0_pairScore_27 (by decide) (fun h => absurd h (by decide)) (fun _ => ?_)
          refine R_iload_n dX0_pairScore_30 rfl ?_
          refine R_iconst dX0_pairScore_31 ?_
          refine R_aload_n dX0_pairScore_32 rfl ?_
          refine R_iload_n dX0_pairScore_33 rfl ?_
          refine R_iload_n dX0_pairScore_34 rfl ?_
          refine R_iload dX0_pairScore_35 rfl ?_
          refine R_callV3 (k2 := kX0_duel) dX0_pairScore_37 rfl gX0_pairScore_X0_duel kkX0_duel rfl rfl (Nat.le_of_ble_eq_true rfl) (c_X0_duel hI (by omega) (by omega) (by omega) (fun r37 h37 => ?_))
          subst h37
          show R _ _ _ _ 40 _ [_, _, _] _ _ _
          refine R_iadd dX0_pairScore_40 ?_
          refine R_iadd dX0_pairScore_41 ?_
          refine R_istore_n dX0_pairScore_42 rfl rfl ?_
          refine R_iinc dX0_pairScore_43 rfl rfl rfl ?_
          refine R_goto (tgt := 5) dX0_pairScore_46 (by decide) ?_
          rw [sm_lt (by omega)] at hs
          refine ih (τ 20 0 - (q + 1)).toNat (by omega) (q + 1) _ rfl (by omega) (by omega) ?_
          first
          | (rw [if_neg (show ¬ (q = p ∨ cn (VV τ r q) (τ 21 0) = 0) by omega)] at hs
             omega)
          | (rw [if_pos (show q = p ∨ cn (VV τ r q) (τ 21 0) = 0 by omega)] at hs
             omega)
        · show R _ _ _ _ 27 _ [_] _ _ _
          refine R_if_eq (tgt := 43) (by decide) dX0_pairScore_27 (by decide) (fun _ => ?_) (fun h => absurd h (by decide))
          refine R_iinc dX0_pairScore_43 rfl rfl rfl ?_
          refine R_goto (tgt := 5) dX0_pairScore_46 (by decide) ?_
          rw [sm_lt (by omega)] at hs
          refine ih (τ 20 0 - (q + 1)).toNat (by omega) (q + 1) _ rfl (by omega) (by omega) ?_
          first
          | (rw [if_neg (show ¬ (q = p ∨ cn (VV τ r q) (τ 21 0) = 0) by omega)] at hs
             omega)
          | (rw [if_pos (show q = p ∨ cn (VV τ r q) (τ 21 0) = 0 by omega)] at hs
             omega)
  refine R_iconst dX0_pairScore_0 ?_
  refine R_istore_n dX0_pairScore_1 rfl rfl ?_
  refine R_iconst dX0_pairScore_2 ?_
  refine R_istore dX0_pairScore_3 rfl rfl ?_
  exact loop _ 0 0 rfl (by omega) (by omega) (by unfold prs; omega)

set_option maxHeartbeats 4000000 in
set_option maxRecDepth 100000 in
theorem c_X0_scoreOf {E : Ev} {d : Nat} {τ ζ : Sf} {Q : Option Value → Sf → Sf → Prop} {r w p : Int} (hI : InvX τ) (hr : 0 ≤ r ∧ r < 3) (hw : 0 ≤ w ∧ w ≤ 5) (hp : 0 ≤ p ∧ p < τ 20 0) (hQ : ∀ (z : Int) (ζ' : Sf), z = scX τ r w p → (∀ k : Nat, k ≠ 11 → ζ' k = ζ k) → Q (some (.int (zI z))) τ ζ') : C E GX kX0_scoreOf (d + 5) [.ref (eAd E 0), .int (zI r), .int (zI w), .int (zI p)] τ ζ Q := by
  refine C_of (by decide) rfl rfl ?_
  show R E GX kX0_scoreOf (d + 5) 0 [some (.ref (eAd E 0)), some (.int (zI r)), some (.int (zI w)), some (.int (zI p)), none] [] τ ζ Q
  obtain ⟨hn, hm, hmk, hys, hpu, hcu, hpl, hwe, hpr, hmi, hwo, hco, hch⟩ := id hI
  refine R_aload_n dX0_scoreOf_0 rfl ?_
  refine R_iload_n dX0_scoreOf_1 rfl ?_
  refine R_iload_n dX0_scoreOf_2 rfl ?_
  refine R_callV2 (k2 := kX0_sortMarks) dX0_scoreOf_3 rfl gX0_scoreOf_X0_sortMarks kkX0_sortMarks rfl rfl (Nat.le_of_ble_eq_true rfl) (c_X0_sortMarks hI (by omega) (by omega) (fun c3 ζ1 h3 hz1 hK1 => ?_))
  show R _ _ _ _ 6 _ [_] _ _ _
  have hcb := cn_bd (v := VV τ r p) (J := τ 21 0) (by omega)
  have hst := so_srt' (VV_mk hI r p) (J := τ 21 0) (by omega)
  have hyb := sm_bd (f := fun j => if VV τ r p j = -1 then 0 else YY τ r p j) (lo := 0) (hi := 1) (b := τ 21 0) 0 (fun x _ _ => by have := hys ((r * 7 + x) * 10 + p); have e : YY τ r p x = τ 2 ((r * 7 + x) * 10 + p) := rfl; show 0 ≤ ite _ _ _ ∧ ite _ _ _ ≤ 1; split <;> omega) (by omega)
  have hyb2 : yn (VV τ r p) (YY τ r p) (τ 21 0) = sm (fun j => if VV τ r p j = -1 then 0 else YY τ r p j) 0 (τ 21 0) := rfl
  rw [← h3] at hcb hst hz1
  have hz : ∀ x : Int, 0 ≤ x → x < c3 → 1 ≤ ζ1 11 x ∧ ζ1 11 x ≤ 100 := fun x a b => by rw [hz1 x a b]; exact hst.2.2.2 x a b
  refine R_istore dX0_scoreOf_6 rfl rfl ?_
  refine R_iload dX0_scoreOf_8 rfl ?_
  refine R_iconst dX0_scoreOf_10 ?_
  refine R_icmp_ge (tgt := 16) (by omega) dX0_scoreOf_11 (by decide) (fun c11 => ?_) (fun c11 => ?_)
  · rcases (show w = 0 ∨ w = 1 ∨ w = 2 ∨ w = 3 ∨ w = 4 ∨ w = 5 by omega) with rfl | rfl | rfl | rfl | rfl | rfl
    · refine R_iload_n dX0_scoreOf_16 rfl ?_
      refine R_tabOut (tgt := 111) (by decide) dX0_scoreOf_17 (by decide) (by decide) ?_
      refine R_aload_n dX0_scoreOf_111 rfl ?_
      refine R_iconst dX0_scoreOf_112 ?_
      refine R_iload dX0_scoreOf_113 rfl ?_
      refine R_callV2 (k2 := kX0_meanBetween) dX0_scoreOf_115 rfl gX0_scoreOf_X0_meanBetween kkX0_meanBetween rfl rfl (Nat.le_of_ble_eq_true rfl) (c_X0_meanBetween (by omega) (fun x g1 g2 => by have := hz x (by omega) (by omega); omega) (fun r115 h115 => ?_))
      subst h115
      show R _ _ _ _ 118 _ [_] _ _ _
      refine R_iret rfl dX0_scoreOf_118 ?_
      exact hQ _ ζ1 (by unfold scX; rw [sc_0 (by omega)]; exact w0_eq (VV_mk hI r p) (by omega) h3 (by omega) hz1) hK1
    · refine R_iload_n dX0_scoreOf_16 rfl ?_
      refine R_tabIn (tgt := 52) (by decide) dX0_scoreOf_17 (by decide) (off := 35) rfl (by decide) ?_
      refine R_aload_n dX0_scoreOf_52 rfl ?_
      refine R_iload dX0_scoreOf_53 rfl ?_
      refine R_callV1 (k2 := kX0_cutMean) dX0_scoreOf_55 rfl gX0_scoreOf_X0_cutMean kkX0_cutMean rfl rfl (Nat.le_of_ble_eq_true rfl) (c_X0_cutMean hI (by omega) hz (fun r55 h55 => ?_))
      subst h55
      show R _ _ _ _ 58 _ [_] _ _ _
      refine R_iret rfl dX0_scoreOf_58 ?_
      exact hQ _ ζ1 (by unfold scX; rw [sc_1 (by omega)]; exact w1_eq (by omega) (by omega) h3 (by omega) hz1) hK1
    · refine R_iload_n dX0_scoreOf_16 rfl ?_
      refine R_tabIn (tgt := 59) (by decide) dX0_scoreOf_17 (by decide) (off := 42) rfl (by decide) ?_
      refine R_ldc 88200 dX0_scoreOf_59 cnX0_scoreOf_195 rfl ?_
      refine R_aload_n dX0_scoreOf_61 rfl ?_
      refine R_getR fX0_scoreOf_47 dX0_scoreOf_62 ?_
      refine R_iload dX0_scoreOf_65 rfl ?_
      refine R_iconst dX0_scoreOf_67 ?_
      refine R_isub dX0_scoreOf_68 ?_
      refine R_iconst dX0_scoreOf_69 ?_
      refine R_idiv (by omega) dX0_scoreOf_70 ?_
      refine R_ialds (q := 11) rfl rfl (by omega) rfl dX0_scoreOf_71 ?_
      refine R_aload_n dX0_scoreOf_72 rfl ?_
      refine R_getR fX0_scoreOf_47 dX0_scoreOf_73 ?_
      refine R_iload dX0_scoreOf_76 rfl ?_
      refine R_iconst dX0_scoreOf_78 ?_
      refine R_idiv (by omega) dX0_scoreOf_79 ?_
      refine R_ialds (q := 11) rfl rfl (by omega) rfl dX0_scoreOf_80 ?_
      refine R_iadd dX0_scoreOf_81 ?_
      refine R_imul dX0_scoreOf_82 ?_
      refine R_iret rfl dX0_scoreOf_83 ?_
      exact hQ _ ζ1 (by unfold scX; rw [sc_2 (by omega), ← h3, hz1 _ (by omega) (by omega), hz1 _ (by omega) (by omega)]) hK1
    · refine R_iload_n dX0_scoreOf_16 rfl ?_
      refine R_tabIn (tgt := 84) (by decide) dX0_scoreOf_17 (by decide) (off := 67) rfl (by decide) ?_
      refine R_ldc 176400 dX0_scoreOf_84 cnX0_scoreOf_196 rfl ?_
      refine R_aload_n dX0_scoreOf_86 rfl ?_
      refine R_iload_n dX0_scoreOf_87 rfl ?_
      refine R_iload_n dX0_scoreOf_88 rfl ?_
      refine R_callV2 (k2 := kX0_countYeses) dX0_scoreOf_89 rfl gX0_scoreOf_X0_countYeses kkX0_countYeses rfl rfl (Nat.le_of_ble_eq_true rfl) (c_X0_countYeses hI (by omega) (by omega) (fun r89 h89 => ?_))
      subst h89
      show R _ _ _ _ 92 _ [_, _] _ _ _
      refine R_imul dX0_scoreOf_92 ?_
      refine R_iload dX0_scoreOf_93 rfl ?_
      refine R_idiv (by omega) dX0_scoreOf_95 ?_
      refine R_iret rfl dX0_scoreOf_96 ?_
      exact hQ _ ζ1 (by unfold scX; rw [sc_3 (by omega), ← h3, div_sum (by omega)]) hK1
    · refine R_iload_n dX0_scoreOf_16 rfl ?_
      refine R_tabIn (tgt := 97) (by decide) dX0_scoreOf_17 (by decide) (off := 80) rfl (by decide) ?_
      refine R_aload_n dX0_scoreOf_97 rfl ?_
      refine R_iload_n dX0_scoreOf_98 rfl ?_
      refine R_iload_n dX0_scoreOf_99 rfl ?_
      refine R_callV2 (k2 := kX0_pairScore) dX0_scoreOf_100 rfl gX0_scoreOf_X0_pairScore kkX0_pairScore rfl rfl (Nat.le_of_ble_eq_true rfl) (c_X0_pairScore hI (by omega) (by omega) (fun r100 h100 => ?_))
      subst h100
      show R _ _ _ _ 103 _ [_] _ _ _
      refine R_iret rfl dX0_scoreOf_103 ?_
      exact hQ _ ζ1 (by unfold scX; rw [sc_4 (by omega)]) hK1
    · refine R_iload_n dX0_scoreOf_16 rfl ?_
      refine R_tabIn (tgt := 104) (by decide) dX0_scoreOf_17 (by decide) (off := 87) rfl (by decide) ?_
      refine R_aload_n dX0_scoreOf_104 rfl ?_
      refine R_iload dX0_scoreOf_105 rfl ?_
      refine R_callV1 (k2 := kX0_pulledMean) dX0_scoreOf_107 rfl gX0_scoreOf_X0_pulledMean kkX0_pulledMean rfl rfl (Nat.le_of_ble_eq_true rfl) (c_X0_pulledMean hI (by omega) hz (fun r107 h107 => ?_))
      subst h107
      show R _ _ _ _ 110 _ [_] _ _ _
      refine R_iret rfl dX0_scoreOf_110 ?_
      exact hQ _ ζ1 (by unfold scX; rw [sc_5 (by omega)]; exact w5_eq (VV_mk hI r p) (by omega) h3 (by omega) hz1) hK1
  · refine R_iconst dX0_scoreOf_14 ?_
    refine R_iret rfl dX0_scoreOf_15 ?_
    exact hQ _ ζ1 (by unfold scX; rw [sc_n (by omega)]) hK1

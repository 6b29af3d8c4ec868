def b1 (b : Int → Int) (p : Int) : Int → Int := fun q => if q = p then 1 else b q
theorem b1_01 {b : Int → Int} (hb : ∀ q, b q = 0 ∨ b q = 1) (p : Int) : ∀ q, b1 b p q = 0 ∨ b1 b p q = 1 := by
  intro q
  unfold b1
  split
  · exact Or.inr rfl
  · exact hb q
theorem zI_on {b : Int → Int} (hb : ∀ q, b q = 0 ∨ b q = 1) {p : Int} (hp : 0 ≤ p ∧ p < 10) (h1 : b p = 0) : zI (bsm b 10) ||| zI (p2 p) = zI (bsm (b1 b p) 10) := by
  have h : ∀ m : Nat, m < 1024 → ∀ q : Nat, q < 10 → m / 2 ^ q % 2 = 0 → zI (m : Int) ||| zI (p2 (q : Int)) = zI ((m : Int) + p2 (q : Int)) := by decide +kernel
  have hbb := bsm_bd' hb (n := 10) (by omega)
  have hbit := bsm_bit' hb (p := p) (n := 10) hp
  have e10 : p2 10 = 1024 := rfl
  have e2 : p2 p = ((2 ^ p.toNat : Nat) : Int) := by
    unfold p2
    rw [Int.natCast_pow]
    rfl
  have h2 := h (bsm b 10).toNat (by omega) p.toNat (by omega) (by
    rw [h1, e2] at hbit
    have h3 : (((bsm b 10).toNat / 2 ^ p.toNat % 2 : Nat) : Int) = 0 := by
      rw [Int.natCast_emod, Int.natCast_ediv, show (((bsm b 10).toNat : Nat) : Int) = bsm b 10 by omega]
      exact hbit
    omega)
  rw [show (((bsm b 10).toNat : Nat) : Int) = bsm b 10 by omega, show ((p.toNat : Nat) : Int) = p by omega] at h2
  rw [h2]
  congr 1
  have h4 : ∀ N : Nat, ∀ a : Int, (p - a).toNat = N → a ≤ p → sm (fun q => b1 b p q * p2 q) a 10 = sm (fun q => b q * p2 q) a 10 + p2 p := by
    refine st_ind (fun N ih => ?_)
    intro a hN ha
    rw [sm_lt (by omega), sm_lt (show a < 10 by omega)]
    by_cases he : a = p
    · subst he
      have e1 : b1 b a a = 1 := if_pos rfl
      have e3 : sm (fun q => b1 b a q * p2 q) (a + 1) 10 = sm (fun q => b q * p2 q) (a + 1) 10 := sm_congr _ (fun i h2 h3 => by
        show b1 b a i * p2 i = b i * p2 i
        rw [show b1 b a i = b i from if_neg (by omega)])
      rw [e1, e3, h1]
      omega
    · have e1 : b1 b p a = b a := if_neg he
      rw [e1, ih _ (by omega) (a + 1) rfl (by omega)]
      omega
  exact (h4 _ 0 rfl hp.1).symm
def fMdrawn (τ : Sf) (l i : Int) : Int := if i < 0 ∨ τ 20 0 ≤ i then -101 else if l < 0 ∨ fac (τ 20 0).toNat - 1 < l then -102 else drN (τ 20 0).toNat (i + 1).toNat 0 (fre (τ 20 0)) l (-1)
set_option maxHeartbeats 4000000 in
set_option maxRecDepth 100000 in
theorem c_X1_drawn {E : Ev} {d : Nat} {τ ζ : Sf} {Q : Option Value → Sf → Sf → Prop} {l0 i : Int} (hI : InvM τ) (hrg : (-2147483648 ≤ l0 ∧ l0 < 2147483648) ∧ (-2147483648 ≤ i ∧ i < 2147483648)) (hQ : ∀ (z : Int) (ζ' : Sf), z = fMdrawn τ l0 i → Q (some (.int (zI z))) τ ζ') : C E GM kX1_drawn (d + 2) [.ref (eAd E 0), .int (zI l0), .int (zI i)] τ ζ Q := by
  refine C_of (by decide) rfl rfl ?_
  show R E GM kX1_drawn (d + 2) 0 [some (.ref (eAd E 0)), some (.int (zI l0)), some (.int (zI i)), none, none, none, none, none, none] [] τ ζ Q
  obtain ⟨hn, hm, hmk, hys, hpu, hcu, hpl, hwe, hpr, hmi, hwo, hco, hch, hhp⟩ := id hI
  have hfn := fac_le (τ 20 0).toNat (by omega)
  have hfn1 := fac_pos (τ 20 0).toNat
  refine R_iload_n dX1_drawn_0 rfl ?_
  refine R_iconst dX1_drawn_1 ?_
  refine R_aload_n dX1_drawn_2 rfl ?_
  refine R_getI 20 fX1_drawn_7 rfl rfl dX1_drawn_3 ?_
  refine R_iconst dX1_drawn_6 ?_
  refine R_isub dX1_drawn_7 ?_
  refine R_callS3 (k2 := kX1_in) dX1_drawn_8 rfl gX1_drawn_X1_in kkX1_in (Nat.le_of_ble_eq_true rfl) (c_X1_in (by omega) (fun b8 => ?_) (fun b8 => ?_))
  · show R _ _ _ _ 11 _ [_] _ _ _
    refine R_if_ne (tgt := 17) (by decide) dX1_drawn_11 (by decide) (fun _ => ?_) (fun h => absurd h (by decide))
    have loopF : ∀ (N : Nat) (k s : Int), (τ 20 0 + 1 - k).toNat = N → 2 ≤ k → (k = 2 ∨ k ≤ τ 20 0 + 1) → k ≤ 11 → s = fac (k - 1).toNat → R E GM kX1_drawn (d + 2) 22 [some (.ref (eAd E 0)), some (.int (zI l0)), some (.int (zI i)), some (.int (zI s)), some (.int (zI k)), none, none, none, none] [] τ ζ Q := by
      refine st_ind (fun N ih => ?_)
      intro k s hN hk hk2 hk3 hs
      refine R_iload dX1_drawn_22 rfl ?_
      refine R_aload_n dX1_drawn_24 rfl ?_
      refine R_getI 20 fX1_drawn_7 rfl rfl dX1_drawn_25 ?_
      refine R_icmp_gt (tgt := 42) (by omega) dX1_drawn_28 (by decide) (fun c28 => ?_) (fun c28 => ?_)
      · have hsf : s = fac (τ 20 0).toNat := by
          rw [hs]
          by_cases hn2 : τ 20 0 < 2
          · have h2 : k = 2 := by omega
            subst h2
            have h1 : τ 20 0 = 1 := by omega
            rw [h1]
            rfl
          · rw [show (k - 1).toNat = (τ 20 0).toNat by omega]
        subst hsf
        refine R_iload_n dX1_drawn_42 rfl ?_
        refine R_iconst dX1_drawn_43 ?_
        refine R_iload_n dX1_drawn_44 rfl ?_
        refine R_iconst dX1_drawn_45 ?_
        refine R_isub dX1_drawn_46 ?_
        refine R_callS3 (k2 := kX1_in) dX1_drawn_47 rfl gX1_drawn_X1_in kkX1_in (Nat.le_of_ble_eq_true rfl) (c_X1_in (by omega) (fun b47 => ?_) (fun b47 => ?_))
        · show R _ _ _ _ 50 _ [_] _ _ _
          refine R_if_ne (tgt := 56) (by decide) dX1_drawn_50 (by decide) (fun _ => ?_) (fun h => absurd h (by decide))
          have loop : ∀ (N a : Nat) (b tb : Int → Int) (l pl : Int) (o6 o8 : Option Value), (N : Int) = i + 1 - a → (∀ q, b q = 0 ∨ b q = 1) → (∀ q, tb q = 0 ∨ tb q = 1) → (∀ q, 0 ≤ q → q < τ 20 0 → tb q = 1 - b q) → sm b 0 (τ 20 0) = τ 20 0 - a → 0 ≤ l → l < fac ((τ 20 0).toNat - a) → o6 = some (.int (zI pl)) → okS 8 [none, none, none, none, none, none, none, none, none] = true → drN (τ 20 0).toNat N a b l pl = drN (τ 20 0).toNat (i + 1).toNat 0 (fre (τ 20 0)) l0 (-1) → R E GM kX1_drawn (d + 2) 68 [some (.ref (eAd E 0)), some (.int (zI l0)), some (.int (zI i)), some (.int (zI ((fac ((τ 20 0).toNat - a))))), some (.int (zI l)), some (.int (zI ((bsm tb 10)))), o6, some (.int (zI ((a : Int)))), o8] [] τ ζ Q := by
            intro N
            induction N with
            | zero =>
              intro a b tb l pl o6 o8 hN hb htb ht hsm hl0 hl ho6 ho8 hd
              subst ho6
              refine R_iload dX1_drawn_68 rfl ?_
              refine R_iload_n dX1_drawn_70 rfl ?_
              refine R_icmp_gt (tgt := 157) (by omega) dX1_drawn_71 (by decide) (fun c71 => ?_) (fun c71 => absurd c71 (by omega))
              refine R_iload dX1_drawn_157 rfl ?_
              refine R_iret rfl dX1_drawn_159 ?_
              exact hQ _ _ (by unfold fMdrawn; rw [if_neg (by omega), if_neg (by omega)]; exact hd)
            | succ N ih =>
              intro a b tb l pl o6 o8 hN hb htb ht hsm hl0 hl ho6 ho8 hd
              subst ho6
              have hbb := bsm_bd' htb (n := 10) (by omega)
              have e10 : p2 10 = 1024 := rfl
              have hfp := fac_pos ((τ 20 0).toNat - 1 - a)
              have hfl := fac_le ((τ 20 0).toNat - 1 - a) (by omega)
              have hfp2 := fac_pos ((τ 20 0).toNat - a)
              have hfl2 := fac_le ((τ 20 0).toNat - a) (by omega)
              have hfS : fac ((τ 20 0).toNat - a) = (τ 20 0 - a) * (fac ((τ 20 0).toNat - 1 - a)) := by
                rw [show (τ 20 0).toNat - a = (τ 20 0).toNat - 1 - a + 1 by omega]
                show ((((τ 20 0).toNat - 1 - a : Nat) : Int) + 1) * _ = _
                rw [show (((τ 20 0).toNat - 1 - a : Nat) : Int) + 1 = τ 20 0 - a by omega]
              have hfd : fac ((τ 20 0).toNat - a) / (τ 20 0 - a) = (fac ((τ 20 0).toNat - 1 - a)) := by
                rw [hfS]
                exact Int.mul_ediv_cancel_left _ (by omega)
              have hdv1 : (l / (fac ((τ 20 0).toNat - 1 - a))) < τ 20 0 - a := by
                rw [hfS] at hl
                exact Int.ediv_lt_of_lt_mul (by omega) hl
              have hdv0 : 0 ≤ (l / (fac ((τ 20 0).toNat - 1 - a))) := Int.ediv_nonneg hl0 (by omega)
              have hmd0 : 0 ≤ l % (fac ((τ 20 0).toNat - 1 - a)) := Int.emod_nonneg _ (by omega)
              have hmd1 : l % (fac ((τ 20 0).toNat - 1 - a)) < (fac ((τ 20 0).toNat - 1 - a)) := Int.emod_lt_of_pos _ (by omega)
              rw [drN_S] at hd
              refine R_iload dX1_drawn_68 rfl ?_
              refine R_iload_n dX1_drawn_70 rfl ?_
              refine R_icmp_gt (tgt := 157) (by omega) dX1_drawn_71 (by decide) (fun c71 => absurd c71 (by omega)) (fun c71 => ?_)
              refine R_iload_n dX1_drawn_74 rfl ?_
              refine R_aload_n dX1_drawn_75 rfl ?_
              refine R_getI 20 fX1_drawn_7 rfl rfl dX1_drawn_76 ?_
              refine R_iload dX1_drawn_79 rfl ?_
              refine R_isub dX1_drawn_81 ?_
              refine R_idiv (by omega) dX1_drawn_82 ?_
              rw [hfd]
              refine R_istore_n dX1_drawn_83 rfl rfl ?_
              refine R_iload dX1_drawn_84 rfl ?_
              refine R_iload_n dX1_drawn_86 rfl ?_
              refine R_idiv (by omega) dX1_drawn_87 ?_
              refine R_istore dX1_drawn_88 rfl rfl ?_
              refine R_iload dX1_drawn_90 rfl ?_
              refine R_iload_n dX1_drawn_92 rfl ?_
              refine R_irem (by omega) dX1_drawn_93 ?_
              refine R_istore dX1_drawn_94 rfl rfl ?_
              refine R_iconst dX1_drawn_96 ?_
              refine R_istore dX1_drawn_97 rfl rfl ?_
              have loop2 : ∀ (N2 : Nat) (q sk : Int), (N2 : Int) = 10 - q → 0 ≤ q → 0 ≤ sk → sk ≤ 4000000 → sk < sm b q (τ 20 0) → nth b N2 q sk = nth b 10 0 (l / (fac ((τ 20 0).toNat - 1 - a))) → R E GM kX1_drawn (d + 2) 99 [some (.ref (eAd E 0)), some (.int (zI l0)), some (.int (zI i)), some (.int (zI ((fac ((τ 20 0).toNat - 1 - a))))), some (.int (zI ((l % (fac ((τ 20 0).toNat - 1 - a)))))), some (.int (zI ((bsm tb 10)))), some (.int (zI q)), some (.int (zI ((a : Int)))), some (.int (zI sk))] [] τ ζ Q := by
                intro N2
                induction N2 with
                | zero =>
                  intro q sk hN2 hq hsk hsk2 hlt hn2
                  rw [sm_ge (by omega)] at hlt
                  omega
                | succ N2 ih2 =>
                  intro q sk hN2 hq hsk hsk2 hlt hn2
                  have hqn : q < τ 20 0 := by
                    by_cases hh : q < τ 20 0
                    · exact hh
                    · rw [sm_ge (by omega)] at hlt
                      omega
                  have hbit := bsm_bit' htb (p := q) (n := 10) (by omega)
                  have htq := ht q hq hqn
                  have hbq := hb q
                  rw [sm_lt hqn] at hlt
                  rw [nth_S] at hn2
                  have hdv := Int.ediv_nonneg (a := (bsm tb 10)) (b := p2 q) (by omega) (by have := p2_pos q; omega)
                  refine R_iload dX1_drawn_99 rfl ?_
                  refine R_iload dX1_drawn_101 rfl ?_
                  refine R_ishr _ (zI_shr (by omega) (by omega)) dX1_drawn_103 ?_
                  refine R_iconst dX1_drawn_104 ?_
                  refine R_iand _ (zI_and1 hdv) dX1_drawn_105 ?_
                  refine R_iconst dX1_drawn_106 ?_
                  refine R_icmp_eq (tgt := 115) (by omega) dX1_drawn_107 (by decide) (fun c107 => ?_) (fun c107 => ?_)
                  · refine R_iload dX1_drawn_115 rfl ?_
                    refine R_iload dX1_drawn_117 rfl ?_
                    refine R_iload dX1_drawn_119 rfl ?_
                    refine R_ishr _ (zI_shr (by omega) (by omega)) dX1_drawn_121 ?_
                    refine R_iconst dX1_drawn_122 ?_
                    refine R_iand _ (zI_and1 hdv) dX1_drawn_123 ?_
                    refine R_iconst dX1_drawn_124 ?_
                    refine R_icmp_ne (tgt := 132) (by omega) dX1_drawn_125 (by decide) (fun c125 => ?_) (fun c125 => ?_)
                    · refine R_iconst dX1_drawn_132 ?_
                      refine R_isub dX1_drawn_133 ?_
                      refine R_istore dX1_drawn_134 rfl rfl ?_
                      refine R_iinc dX1_drawn_136 rfl rfl rfl ?_
                      refine R_goto (tgt := 99) dX1_drawn_139 (by decide) ?_
                      first
                      | (exfalso; omega)
                      | (rw [if_neg (show ¬ b q = 1 by omega)] at hn2
                         exact ih2 (q + 1) _ (by omega) (by omega) (by omega) (by omega) (by omega) (by rw [Int.sub_zero]; exact hn2))
                      | (rw [if_pos (show b q = 1 by omega), if_neg (by omega)] at hn2
                         exact ih2 (q + 1) _ (by omega) (by omega) (by omega) (by omega) (by omega) hn2)
                    · refine R_iconst dX1_drawn_128 ?_
                      refine R_goto (tgt := 133) dX1_drawn_129 (by decide) ?_
                      refine R_isub dX1_drawn_133 ?_
                      refine R_istore dX1_drawn_134 rfl rfl ?_
                      refine R_iinc dX1_drawn_136 rfl rfl rfl ?_
                      refine R_goto (tgt := 99) dX1_drawn_139 (by decide) ?_
                      first
                      | (exfalso; omega)
                      | (rw [if_neg (show ¬ b q = 1 by omega)] at hn2
                         exact ih2 (q + 1) _ (by omega) (by omega) (by omega) (by omega) (by omega) (by rw [Int.sub_zero]; exact hn2))
                      | (rw [if_pos (show b q = 1 by omega), if_neg (by omega)] at hn2
                         exact ih2 (q + 1) _ (by omega) (by omega) (by omega) (by omega) (by omega) hn2)
                  · refine R_iload dX1_drawn_110 rfl ?_
                    refine R_if_le (tgt := 142) (by omega) dX1_drawn_112 (by decide) (fun c112 => ?_) (fun c112 => ?_)
                    · refine R_iload dX1_drawn_142 rfl ?_
                      refine R_iconst dX1_drawn_144 ?_
                      refine R_iload dX1_drawn_145 rfl ?_
                      refine R_ishl _ (zI_shl1 (by omega)) dX1_drawn_147 ?_
                      refine R_ior _ (zI_on htb (by omega) (by omega)) dX1_drawn_148 ?_
                      refine R_istore dX1_drawn_149 rfl rfl ?_
                      refine R_iinc dX1_drawn_151 rfl rfl rfl ?_
                      refine R_goto (tgt := 68) dX1_drawn_154 (by decide) ?_
                      rw [if_pos (show b q = 1 by omega), if_pos (show sk = 0 by omega)] at hn2
                      have e := ih (a + 1) (b0 b q) (b1 tb q) (l % (fac ((τ 20 0).toNat - 1 - a))) q (some (.int (zI q))) (some (.int (zI sk))) (by omega) (b0_01 hb _) (b1_01 htb _) (fun x h1 h2 => by
                        have := ht x h1 h2
                        unfold b0 b1
                        split <;> omega) (by rw [sm_b0 hqn (by omega) 0 hq]; omega) hmd0 (by rw [show (τ 20 0).toNat - (a + 1) = (τ 20 0).toNat - 1 - a by omega]; exact hmd1) rfl rfl (by rw [← hd, ← hn2])
                      rw [show (((a + 1 : Nat)) : Int) = (a : Int) + 1 by omega, show (τ 20 0).toNat - (a + 1) = (τ 20 0).toNat - 1 - a by omega] at e
                      exact e
                    · refine R_iload dX1_drawn_115 rfl ?_
                      refine R_iload dX1_drawn_117 rfl ?_
                      refine R_iload dX1_drawn_119 rfl ?_
                      refine R_ishr _ (zI_shr (by omega) (by omega)) dX1_drawn_121 ?_
                      refine R_iconst dX1_drawn_122 ?_
                      refine R_iand _ (zI_and1 hdv) dX1_drawn_123 ?_
                      refine R_iconst dX1_drawn_124 ?_
                      refine R_icmp_ne (tgt := 132) (by omega) dX1_drawn_125 (by decide) (fun c125 => ?_) (fun c125 => ?_)
                      · refine R_iconst dX1_drawn_132 ?_
                        refine R_isub dX1_drawn_133 ?_
                        refine R_istore dX1_drawn_134 rfl rfl ?_
                        refine R_iinc dX1_drawn_136 rfl rfl rfl ?_
                        refine R_goto (tgt := 99) dX1_drawn_139 (by decide) ?_
                        first
                        | (exfalso; omega)
                        | (rw [if_neg (show ¬ b q = 1 by omega)] at hn2
                           exact ih2 (q + 1) _ (by omega) (by omega) (by omega) (by omega) (by omega) (by rw [Int.sub_zero]; exact hn2))
                        | (rw [if_pos (show b q = 1 by omega), if_neg (by omega)] at hn2
                           exact ih2 (q + 1) _ (by omega) (by omega) (by omega) (by omega) (by omega) hn2)
                      · refine R_iconst dX1_drawn_128 ?_
                        refine R_goto (tgt := 133) dX1_drawn_129 (by decide) ?_
                        refine R_isub dX1_drawn_133 ?_
                        refine R_istore dX1_drawn_134 rfl rfl ?_
                        refine R_iinc dX1_drawn_136 rfl rfl rfl ?_
                        refine R_goto (tgt := 99) dX1_drawn_139 (by decide) ?_
                        first
                        | (exfalso; omega)
                        | (rw [if_neg (show ¬ b q = 1 by omega)] at hn2
                           exact ih2 (q + 1) _ (by omega) (by omega) (by omega) (by omega) (by omega) (by rw [Int.sub_zero]; exact hn2))
                        | (rw [if_pos (show b q = 1 by omega), if_neg (by omega)] at hn2
                           exact ih2 (q + 1) _ (by omega) (by omega) (by omega) (by omega) (by omega) hn2)
              exact loop2 10 0 (l / (fac ((τ 20 0).toNat - 1 - a))) (by omega) (by omega) hdv0 (by omega) (by omega) rfl
          refine R_iload_n dX1_drawn_56 rfl ?_
          refine R_istore dX1_drawn_57 rfl rfl ?_
          refine R_iconst dX1_drawn_59 ?_
          refine R_istore dX1_drawn_60 rfl rfl ?_
          refine R_iconst dX1_drawn_62 ?_
          refine R_istore dX1_drawn_63 rfl rfl ?_
          refine R_iconst dX1_drawn_65 ?_
          refine R_istore dX1_drawn_66 rfl rfl ?_
          have hz0 : bsm (fun _ => 0) 10 = 0 := rfl
          rw [← hz0]
          exact loop (i + 1).toNat 0 (fre (τ 20 0)) (fun _ => 0) l0 (-1) _ _ (by omega) (fre_01 _) (fun _ => Or.inl rfl) (fun q h1 h2 => by unfold fre; rw [if_pos ⟨h1, h2⟩]; omega) (by rw [sm_fre (by omega)]; omega) (by omega) (by rw [Nat.sub_zero]; omega) rfl rfl rfl
        · show R _ _ _ _ 50 _ [_] _ _ _
          refine R_if_ne (tgt := 56) (by decide) dX1_drawn_50 (by decide) (fun h => absurd h (by decide)) (fun _ => ?_)
          refine R_bipush dX1_drawn_53 (by decide) ?_
          refine R_iret rfl dX1_drawn_55 ?_
          exact hQ _ _ (by unfold fMdrawn; first | rw [if_pos (by omega)] | rw [if_neg (by omega), if_pos (by omega)] | rw [if_neg (by omega), if_neg (by omega), if_pos (by omega)] | rw [if_neg (by omega), if_neg (by omega), if_neg (by omega)] | rw [if_neg (by omega), if_neg (by omega)] | rw [if_neg (by omega)])
      · refine R_iload_n dX1_drawn_31 rfl ?_
        refine R_iload dX1_drawn_32 rfl ?_
        refine R_imul dX1_drawn_34 ?_
        refine R_istore_n dX1_drawn_35 rfl rfl ?_
        refine R_iinc dX1_drawn_36 rfl rfl rfl ?_
        refine R_goto (tgt := 22) dX1_drawn_39 (by decide) ?_
        refine ih _ (by omega) (k + 1) _ rfl (by omega) (by omega) (by omega) ?_
        rw [hs, show (k + 1 - 1).toNat = (k - 1).toNat + 1 by omega]
        show _ = (((k - 1).toNat : Int) + 1) * fac (k - 1).toNat
        rw [show (((k - 1).toNat : Int)) + 1 = k by omega, Int.mul_comm]
    refine R_iconst dX1_drawn_17 ?_
    refine R_istore_n dX1_drawn_18 rfl rfl ?_
    refine R_iconst dX1_drawn_19 ?_
    refine R_istore dX1_drawn_20 rfl rfl ?_
    exact loopF _ 2 1 rfl (by omega) (by omega) (by omega) rfl
  · show R _ _ _ _ 11 _ [_] _ _ _
    refine R_if_ne (tgt := 17) (by decide) dX1_drawn_11 (by decide) (fun h => absurd h (by decide)) (fun _ => ?_)
    refine R_bipush dX1_drawn_14 (by decide) ?_
    refine R_iret rfl dX1_drawn_16 ?_
    exact hQ _ _ (by unfold fMdrawn; first | rw [if_pos (by omega)] | rw [if_neg (by omega), if_pos (by omega)] | rw [if_neg (by omega), if_neg (by omega), if_pos (by omega)] | rw [if_neg (by omega), if_neg (by omega), if_neg (by omega)] | rw [if_neg (by omega), if_neg (by omega)] | rw [if_neg (by omega)])

set_option maxHeartbeats 4000000 in
set_option maxRecDepth 100000 in
theorem c_X1_mix {E : Ev} {d : Nat} {τ ζ : Sf} {Q : Option Value → Sf → Sf → Prop} {v : Int} (hQ : Q none τ (up ζ 42 0 (31 * ζ 42 0 + v))) : C E GM kX1_mix d [.ref (eAd E 0), .long (zL v)] τ ζ Q := by
  refine C_of (by decide) rfl rfl ?_
  show R E GM kX1_mix d 0 [some (.ref (eAd E 0)), some (.long (zL (v))), none] [] τ ζ Q
  refine R_aload_n dX1_mix_0 rfl ?_
  refine R_ldc2 31 dX1_mix_1 cnX1_mix_168 rfl ?_
  refine R_aload_n dX1_mix_4 rfl ?_
  refine R_getLs 42 fX1_mix_170 rfl rfl dX1_mix_5 ?_
  refine R_lmul dX1_mix_8 ?_
  refine R_lload_n dX1_mix_9 rfl ?_
  refine R_ladd dX1_mix_10 ?_
  refine R_putLs 42 fX1_mix_170 rfl rfl rfl (by decide +kernel) dX1_mix_11 ?_
  refine R_vret rfl dX1_mix_14 ?_
  exact hQ

theorem dgC_m (τ : Sf) (r j p h : Int) : dgC τ r j p h = 31 * (31 * h + τ 1 (70 * r + 10 * j + p)) + τ 2 (70 * r + 10 * j + p) := by
  unfold dgC
  rw [show (r * 7 + j) * 10 + p = 70 * r + 10 * j + p by omega]
def dgWM (τ : Sf) (p h : Int) : Int := fo (fun i h => 31 * h + τ 8 (3 * p + i)) 0 (τ 7 p) h
def dgM1 (τ : Sf) : Int := fo (fun r h => dgR τ r h) 0 3 (31 * (31 * 193 + τ 20 0) + τ 21 0)
def dgM2 (τ : Sf) : Int := fo (fun j h => dgP τ j h) 0 (τ 21 0) (dgM1 τ)
def dgM3 (τ : Sf) : Int := fo (fun i h => 31 * h + τ 4 i) 0 3 (31 * (31 * dgM2 τ + τ 25 0) + τ 26 0)
def dgM4 (τ : Sf) : Int := fo (fun i h => 31 * h + τ 5 i) 0 6 (dgM3 τ)
def dgM5 (τ : Sf) : Int := fo (fun i h => 31 * h + τ 6 i) 0 12 (dgM4 τ)
def dgM (τ : Sf) : Int := fo (fun p h => 31 * dgWM τ p h + chM τ p) 0 (τ 20 0) (dgM5 τ)
set_option maxHeartbeats 4000000 in
set_option maxRecDepth 100000 in
theorem c_X1_digest {E : Ev} {d : Nat} {τ ζ : Sf} {Q : Option Value → Sf → Sf → Prop} (hI : InvM τ) (hQ : ∀ (z : Int) (ζ' : Sf), z = dgM τ → Q (some (.long (zL z))) τ ζ') : C E GM kX1_digest (d + 2) [.ref (eAd E 0)] τ ζ Q := by
  refine C_of (by decide) rfl rfl ?_
  show R E GM kX1_digest (d + 2) 0 [some (.ref (eAd E 0)), none, none, none] [] τ ζ Q
  obtain ⟨hn, hm, hmk, hys, hpu, hcu, hpl, hwe, hpr, hmi, hwo, hco, hch, hhp⟩ := id hI
  have loopE : ∀ (N : Nat) (p s : Int) (a b : Option Value) (ζ' : Sf), (τ 20 0 - p).toNat = N → 0 ≤ p → p ≤ τ 20 0 → ζ' 42 0 = s → fo (fun p h => 31 * dgWM τ p h + chM τ p) p (τ 20 0) s = dgM τ → R E GM kX1_digest (d + 2) 268 [some (.ref (eAd E 0)), some (.int (zI p)), a, b] [] τ ζ' Q := by
    refine st_ind (fun N ih => ?_)
    intro p s a b ζ' hN hp hp2 hh hs
    have hcp := hco p
    refine R_iload_n dX1_digest_268 rfl ?_
    refine R_aload_n dX1_digest_269 rfl ?_
    refine R_getI 20 fX1_digest_7 rfl rfl dX1_digest_270 ?_
    refine R_icmp_ge (tgt := 325) (by omega) dX1_digest_273 (by decide) (fun c273 => ?_) (fun c273 => ?_)
    · refine R_aload_n dX1_digest_325 rfl ?_
      refine R_getLs 42 fX1_digest_170 rfl rfl dX1_digest_326 ?_
      refine R_lret rfl dX1_digest_329 ?_
      rw [fo_ge (by omega)] at hs
      rw [hh, hs]
      exact hQ _ _ rfl
    · have loopE2 : ∀ (N2 : Nat) (i s2 : Int) (b : Option Value) (ζ2 : Sf), (τ 7 p - i).toNat = N2 → 0 ≤ i → i ≤ τ 7 p → ζ2 42 0 = s2 → fo (fun i h => 31 * h + τ 8 (3 * p + i)) i (τ 7 p) s2 = dgWM τ p s → R E GM kX1_digest (d + 2) 278 [some (.ref (eAd E 0)), some (.int (zI p)), some (.int (zI i)), b] [] τ ζ2 Q := by
        refine st_ind (fun N2 ih2 => ?_)
        intro i s2 b ζ2 hN2 hi hi2 hh2 hs2
        have hw1 := hwo (3 * p + i)
        refine R_iload_n dX1_digest_278 rfl ?_
        refine R_aload_n dX1_digest_279 rfl ?_
        refine R_getR fX1_digest_42 dX1_digest_280 ?_
        refine R_iload_n dX1_digest_283 rfl ?_
        refine R_iald (q := 7) rfl rfl (by omega) rfl dX1_digest_284 ?_
        refine R_icmp_ge (tgt := 309) (by omega) dX1_digest_285 (by decide) (fun c285 => ?_) (fun c285 => ?_)
        · refine R_aload_n dX1_digest_309 rfl ?_
          refine R_aload_n dX1_digest_310 rfl ?_
          refine R_iload_n dX1_digest_311 rfl ?_
          refine R_callV1 (k2 := kX1_chosenOf) dX1_digest_312 rfl gX1_digest_X1_chosenOf kkX1_chosenOf rfl rfl (Nat.le_of_ble_eq_true rfl) (c_X1_chosenOf hI (by omega) (fun r312 h312 => ?_))
          subst h312
          show R _ _ _ _ 315 _ [_, _] _ _ _
          have hcb : -2147483648 ≤ chM τ p ∧ chM τ p < 2147483648 := by
            have := hch p
            unfold chM
            split <;> omega
          refine R_i2l (by omega) dX1_digest_315 ?_
          refine R_callV1 (k2 := kX1_mix) dX1_digest_316 rfl gX1_digest_X1_mix kkX1_mix rfl rfl (Nat.le_of_ble_eq_true rfl) (c_X1_mix ?_)
          show R _ _ _ _ 319 _ [] _ _ _
          refine R_iinc dX1_digest_319 rfl rfl rfl ?_
          refine R_goto (tgt := 268) dX1_digest_322 (by decide) ?_
          rw [fo_ge (by omega)] at hs2
          rw [fo_lt (by omega)] at hs
          exact ih _ (by omega) (p + 1) _ _ _ _ rfl (by omega) (by omega) (by rw [up_at, if_pos rfl, hh2, hs2]) hs
        · refine R_aload_n dX1_digest_288 rfl ?_
          refine R_aload_n dX1_digest_289 rfl ?_
          refine R_getR fX1_digest_45 dX1_digest_290 ?_
          refine R_iconst dX1_digest_293 ?_
          refine R_iload_n dX1_digest_294 rfl ?_
          refine R_imul dX1_digest_295 ?_
          refine R_iload_n dX1_digest_296 rfl ?_
          refine R_iadd dX1_digest_297 ?_
          refine R_iald (q := 8) rfl rfl (by omega) rfl dX1_digest_298 ?_
          refine R_i2l (by omega) dX1_digest_299 ?_
          refine R_callV1 (k2 := kX1_mix) dX1_digest_300 rfl gX1_digest_X1_mix kkX1_mix rfl rfl (Nat.le_of_ble_eq_true rfl) (c_X1_mix ?_)
          show R _ _ _ _ 303 _ [] _ _ _
          refine R_iinc dX1_digest_303 rfl rfl rfl ?_
          refine R_goto (tgt := 278) dX1_digest_306 (by decide) ?_
          rw [fo_lt (by omega)] at hs2
          exact ih2 _ (by omega) (i + 1) _ _ _ rfl (by omega) (by omega) (by rw [up_at, if_pos rfl, hh2]) hs2
      refine R_iconst dX1_digest_276 ?_
      refine R_istore_n dX1_digest_277 rfl rfl ?_
      exact loopE2 _ 0 s _ ζ' rfl (by omega) (by omega) hh rfl
  have loopV : ∀ (N : Nat) (i s : Int) (a b : Option Value) (ζ' : Sf), (12 - i).toNat = N → 0 ≤ i → i ≤ 12 → ζ' 42 0 = s → fo (fun i h => 31 * h + τ 6 i) i 12 s = dgM5 τ → R E GM kX1_digest (d + 2) 243 [some (.ref (eAd E 0)), some (.int (zI i)), a, b] [] τ ζ' Q := by
    refine st_ind (fun N ih => ?_)
    intro i s a b ζ' hN hi hi2 hh hs
    have hb := hmi i
    refine R_iload_n dX1_digest_243 rfl ?_
    refine R_bipush dX1_digest_244 (by decide) ?_
    refine R_icmp_ge (tgt := 266) (by omega) dX1_digest_246 (by decide) (fun c246 => ?_) (fun c246 => ?_)
    · refine R_iconst dX1_digest_266 ?_
      refine R_istore_n dX1_digest_267 rfl rfl ?_
      rw [fo_ge (by omega)] at hs
      exact loopE _ 0 _ _ _ _ rfl (by omega) (by omega) hh (by rw [hs]; rfl)
    · refine R_aload_n dX1_digest_249 rfl ?_
      refine R_aload_n dX1_digest_250 rfl ?_
      refine R_getR fX1_digest_39 dX1_digest_251 ?_
      refine R_iload_n dX1_digest_254 rfl ?_
      refine R_iald (q := 6) rfl rfl (by omega) rfl dX1_digest_255 ?_
      refine R_i2l (by omega) dX1_digest_256 ?_
      refine R_callV1 (k2 := kX1_mix) dX1_digest_257 rfl gX1_digest_X1_mix kkX1_mix rfl rfl (Nat.le_of_ble_eq_true rfl) (c_X1_mix ?_)
      show R _ _ _ _ 260 _ [] _ _ _
      refine R_iinc dX1_digest_260 rfl rfl rfl ?_
      refine R_goto (tgt := 243) dX1_digest_263 (by decide) ?_
      rw [fo_lt (by omega)] at hs
      exact ih _ (by omega) (i + 1) _ _ _ _ rfl (by omega) (by omega) (by rw [up_at, if_pos rfl, hh]) hs
  have loopZ : ∀ (N : Nat) (i s : Int) (a b : Option Value) (ζ' : Sf), (6 - i).toNat = N → 0 ≤ i → i ≤ 6 → ζ' 42 0 = s → fo (fun i h => 31 * h + τ 5 i) i 6 s = dgM4 τ → R E GM kX1_digest (d + 2) 218 [some (.ref (eAd E 0)), some (.int (zI i)), a, b] [] τ ζ' Q := by
    refine st_ind (fun N ih => ?_)
    intro i s a b ζ' hN hi hi2 hh hs
    have hb := hpr i
    refine R_iload_n dX1_digest_218 rfl ?_
    refine R_bipush dX1_digest_219 (by decide) ?_
    refine R_icmp_ge (tgt := 241) (by omega) dX1_digest_221 (by decide) (fun c221 => ?_) (fun c221 => ?_)
    · refine R_iconst dX1_digest_241 ?_
      refine R_istore_n dX1_digest_242 rfl rfl ?_
      rw [fo_ge (by omega)] at hs
      exact loopV _ 0 _ _ _ _ rfl (by omega) (by omega) hh (by rw [hs]; rfl)
    · refine R_aload_n dX1_digest_224 rfl ?_
      refine R_aload_n dX1_digest_225 rfl ?_
      refine R_getR fX1_digest_36 dX1_digest_226 ?_
      refine R_iload_n dX1_digest_229 rfl ?_
      refine R_iald (q := 5) rfl rfl (by omega) rfl dX1_digest_230 ?_
      refine R_i2l (by omega) dX1_digest_231 ?_
      refine R_callV1 (k2 := kX1_mix) dX1_digest_232 rfl gX1_digest_X1_mix kkX1_mix rfl rfl (Nat.le_of_ble_eq_true rfl) (c_X1_mix ?_)
      show R _ _ _ _ 235 _ [] _ _ _
      refine R_iinc dX1_digest_235 rfl rfl rfl ?_
      refine R_goto (tgt := 218) dX1_digest_238 (by decide) ?_
      rw [fo_lt (by omega)] at hs
      exact ih _ (by omega) (i + 1) _ _ _ _ rfl (by omega) (by omega) (by rw [up_at, if_pos rfl, hh]) hs
  have loopW : ∀ (N : Nat) (i s : Int) (a b : Option Value) (ζ' : Sf), (3 - i).toNat = N → 0 ≤ i → i ≤ 3 → ζ' 42 0 = s → fo (fun i h => 31 * h + τ 4 i) i 3 s = dgM3 τ → R E GM kX1_digest (d + 2) 194 [some (.ref (eAd E 0)), some (.int (zI i)), a, b] [] τ ζ' Q := by
    refine st_ind (fun N ih => ?_)
    intro i s a b ζ' hN hi hi2 hh hs
    have hb := hwe i
    refine R_iload_n dX1_digest_194 rfl ?_
    refine R_iconst dX1_digest_195 ?_
    refine R_icmp_ge (tgt := 216) (by omega) dX1_digest_196 (by decide) (fun c196 => ?_) (fun c196 => ?_)
    · refine R_iconst dX1_digest_216 ?_
      refine R_istore_n dX1_digest_217 rfl rfl ?_
      rw [fo_ge (by omega)] at hs
      exact loopZ _ 0 _ _ _ _ rfl (by omega) (by omega) hh (by rw [hs]; rfl)
    · refine R_aload_n dX1_digest_199 rfl ?_
      refine R_aload_n dX1_digest_200 rfl ?_
      refine R_getR fX1_digest_33 dX1_digest_201 ?_
      refine R_iload_n dX1_digest_204 rfl ?_
      refine R_iald (q := 4) rfl rfl (by omega) rfl dX1_digest_205 ?_
      refine R_i2l (by omega) dX1_digest_206 ?_
      refine R_callV1 (k2 := kX1_mix) dX1_digest_207 rfl gX1_digest_X1_mix kkX1_mix rfl rfl (Nat.le_of_ble_eq_true rfl) (c_X1_mix ?_)
      show R _ _ _ _ 210 _ [] _ _ _
      refine R_iinc dX1_digest_210 rfl rfl rfl ?_
      refine R_goto (tgt := 194) dX1_digest_213 (by decide) ?_
      rw [fo_lt (by omega)] at hs
      exact ih _ (by omega) (i + 1) _ _ _ _ rfl (by omega) (by omega) (by rw [up_at, if_pos rfl, hh]) hs
  have loopB : ∀ (N : Nat) (j s : Int) (a b : Option Value) (ζ' : Sf), (τ 21 0 - j).toNat = N → 0 ≤ j → j ≤ τ 21 0 → ζ' 42 0 = s → fo (fun j h => dgP τ j h) j (τ 21 0) s = dgM2 τ → R E GM kX1_digest (d + 2) 121 [some (.ref (eAd E 0)), some (.int (zI j)), a, b] [] τ ζ' Q := by
    refine st_ind (fun N ih => ?_)
    intro j s a b ζ' hN hj hj2 hh hs
    refine R_iload_n dX1_digest_121 rfl ?_
    refine R_aload_n dX1_digest_122 rfl ?_
    refine R_getI 21 fX1_digest_13 rfl rfl dX1_digest_123 ?_
    refine R_icmp_ge (tgt := 174) (by omega) dX1_digest_126 (by decide) (fun c126 => ?_) (fun c126 => ?_)
    · refine R_aload_n dX1_digest_174 rfl ?_
      refine R_aload_n dX1_digest_175 rfl ?_
      refine R_getI 25 fX1_digest_27 rfl rfl dX1_digest_176 ?_
      refine R_i2l (by omega) dX1_digest_179 ?_
      refine R_callV1 (k2 := kX1_mix) dX1_digest_180 rfl gX1_digest_X1_mix kkX1_mix rfl rfl (Nat.le_of_ble_eq_true rfl) (c_X1_mix ?_)
      show R _ _ _ _ 183 _ [] _ _ _
      refine R_aload_n dX1_digest_183 rfl ?_
      refine R_aload_n dX1_digest_184 rfl ?_
      refine R_getI 26 fX1_digest_30 rfl rfl dX1_digest_185 ?_
      refine R_i2l (by omega) dX1_digest_188 ?_
      refine R_callV1 (k2 := kX1_mix) dX1_digest_189 rfl gX1_digest_X1_mix kkX1_mix rfl rfl (Nat.le_of_ble_eq_true rfl) (c_X1_mix ?_)
      show R _ _ _ _ 192 _ [] _ _ _
      refine R_iconst dX1_digest_192 ?_
      refine R_istore_n dX1_digest_193 rfl rfl ?_
      rw [fo_ge (by omega)] at hs
      exact loopW _ 0 _ _ _ _ rfl (by omega) (by omega) rfl (by rw [up_at, if_pos rfl, up_at, if_pos rfl, hh, hs]; rfl)
    · have loopB2 : ∀ (N2 : Nat) (p s2 : Int) (b : Option Value) (ζ2 : Sf), (τ 20 0 - p).toNat = N2 → 0 ≤ p → p ≤ τ 20 0 → ζ2 42 0 = s2 → fo (fun p h => 31 * h + τ 3 (j * 10 + p)) p (τ 20 0) s2 = dgP τ j s → R E GM kX1_digest (d + 2) 131 [some (.ref (eAd E 0)), some (.int (zI j)), some (.int (zI p)), b] [] τ ζ2 Q := by
        refine st_ind (fun N2 ih2 => ?_)
        intro p s2 b ζ2 hN2 hp hp2 hh2 hs2
        have hpu1 := hpu (10 * j + p)
        refine R_iload_n dX1_digest_131 rfl ?_
        refine R_aload_n dX1_digest_132 rfl ?_
        refine R_getI 20 fX1_digest_7 rfl rfl dX1_digest_133 ?_
        refine R_icmp_ge (tgt := 168) (by omega) dX1_digest_136 (by decide) (fun c136 => ?_) (fun c136 => ?_)
        · refine R_iinc dX1_digest_168 rfl rfl rfl ?_
          refine R_goto (tgt := 121) dX1_digest_171 (by decide) ?_
          rw [fo_ge (by omega)] at hs2
          rw [fo_lt (by omega)] at hs
          exact ih _ (by omega) (j + 1) _ _ _ _ rfl (by omega) (by omega) (by rw [hh2, hs2]) hs
        · refine R_aload_n dX1_digest_139 rfl ?_
          refine R_aload_n dX1_digest_140 rfl ?_
          refine R_getR fX1_digest_24 dX1_digest_141 ?_
          refine R_bipush dX1_digest_144 (by decide) ?_
          refine R_iload_n dX1_digest_146 rfl ?_
          refine R_imul dX1_digest_147 ?_
          refine R_iload_n dX1_digest_148 rfl ?_
          refine R_iadd dX1_digest_149 ?_
          refine R_bald (q := 3) rfl rfl rfl (by omega) rfl dX1_digest_150 ?_
          refine R_if_eq (tgt := 158) (by omega) dX1_digest_151 (by decide) (fun c151 => ?_) (fun c151 => ?_)
          · refine R_lconst 0 dX1_digest_158 rfl ?_
            refine R_callV1 (k2 := kX1_mix) dX1_digest_159 rfl gX1_digest_X1_mix kkX1_mix rfl rfl (Nat.le_of_ble_eq_true rfl) (c_X1_mix ?_)
            show R _ _ _ _ 162 _ [] _ _ _
            refine R_iinc dX1_digest_162 rfl rfl rfl ?_
            refine R_goto (tgt := 131) dX1_digest_165 (by decide) ?_
            rw [fo_lt (by omega), show j * 10 + p = 10 * j + p by omega] at hs2
            exact ih2 _ (by omega) (p + 1) _ _ _ rfl (by omega) (by omega) (by rw [up_at, if_pos rfl, hh2]) (by rw [← hs2]; congr 1; omega)
          · refine R_lconst 1 dX1_digest_154 rfl ?_
            refine R_goto (tgt := 159) dX1_digest_155 (by decide) ?_
            refine R_callV1 (k2 := kX1_mix) dX1_digest_159 rfl gX1_digest_X1_mix kkX1_mix rfl rfl (Nat.le_of_ble_eq_true rfl) (c_X1_mix ?_)
            show R _ _ _ _ 162 _ [] _ _ _
            refine R_iinc dX1_digest_162 rfl rfl rfl ?_
            refine R_goto (tgt := 131) dX1_digest_165 (by decide) ?_
            rw [fo_lt (by omega), show j * 10 + p = 10 * j + p by omega] at hs2
            exact ih2 _ (by omega) (p + 1) _ _ _ rfl (by omega) (by omega) (by rw [up_at, if_pos rfl, hh2]) (by rw [← hs2]; congr 1; omega)
      refine R_iconst dX1_digest_129 ?_
      refine R_istore_n dX1_digest_130 rfl rfl ?_
      exact loopB2 _ 0 s _ ζ' rfl (by omega) (by omega) hh rfl
  have loopA : ∀ (N : Nat) (r s : Int) (a b : Option Value) (ζ' : Sf), (3 - r).toNat = N → 0 ≤ r → r ≤ 3 → ζ' 42 0 = s → fo (fun r h => dgR τ r h) r 3 s = dgM1 τ → R E GM kX1_digest (d + 2) 27 [some (.ref (eAd E 0)), some (.int (zI r)), a, b] [] τ ζ' Q := by
    refine st_ind (fun N ih => ?_)
    intro r s a b ζ' hN hr hr2 hh hs
    refine R_iload_n dX1_digest_27 rfl ?_
    refine R_iconst dX1_digest_28 ?_
    refine R_icmp_ge (tgt := 119) (by omega) dX1_digest_29 (by decide) (fun c29 => ?_) (fun c29 => ?_)
    · refine R_iconst dX1_digest_119 ?_
      refine R_istore_n dX1_digest_120 rfl rfl ?_
      rw [fo_ge (by omega)] at hs
      exact loopB _ 0 _ _ _ _ rfl (by omega) (by omega) hh (by rw [hs]; rfl)
    · have loopA2 : ∀ (N2 : Nat) (j s2 : Int) (b : Option Value) (ζ2 : Sf), (τ 21 0 - j).toNat = N2 → 0 ≤ j → j ≤ τ 21 0 → ζ2 42 0 = s2 → fo (fun j h => dgJ τ r j h) j (τ 21 0) s2 = dgR τ r s → R E GM kX1_digest (d + 2) 34 [some (.ref (eAd E 0)), some (.int (zI r)), some (.int (zI j)), b] [] τ ζ2 Q := by
        refine st_ind (fun N2 ih2 => ?_)
        intro j s2 b ζ2 hN2 hj hj2 hh2 hs2
        refine R_iload_n dX1_digest_34 rfl ?_
        refine R_aload_n dX1_digest_35 rfl ?_
        refine R_getI 21 fX1_digest_13 rfl rfl dX1_digest_36 ?_
        refine R_icmp_ge (tgt := 113) (by omega) dX1_digest_39 (by decide) (fun c39 => ?_) (fun c39 => ?_)
        · refine R_iinc dX1_digest_113 rfl rfl rfl ?_
          refine R_goto (tgt := 27) dX1_digest_116 (by decide) ?_
          rw [fo_ge (by omega)] at hs2
          rw [fo_lt (by omega)] at hs
          exact ih _ (by omega) (r + 1) _ _ _ _ rfl (by omega) (by omega) (by rw [hh2, hs2]) hs
        · have loopA3 : ∀ (N3 : Nat) (p s3 : Int) (ζ3 : Sf), (τ 20 0 - p).toNat = N3 → 0 ≤ p → p ≤ τ 20 0 → ζ3 42 0 = s3 → fo (fun p h => dgC τ r j p h) p (τ 20 0) s3 = dgJ τ r j s2 → R E GM kX1_digest (d + 2) 44 [some (.ref (eAd E 0)), some (.int (zI r)), some (.int (zI j)), some (.int (zI p))] [] τ ζ3 Q := by
            refine st_ind (fun N3 ih3 => ?_)
            intro p s3 ζ3 hN3 hp hp2 hh3 hs3
            have hm1 := hmk (70 * r + 10 * j + p)
            have hy1 := hys (70 * r + 10 * j + p)
            refine R_iload_n dX1_digest_44 rfl ?_
            refine R_aload_n dX1_digest_45 rfl ?_
            refine R_getI 20 fX1_digest_7 rfl rfl dX1_digest_46 ?_
            refine R_icmp_ge (tgt := 107) (by omega) dX1_digest_49 (by decide) (fun c49 => ?_) (fun c49 => ?_)
            · refine R_iinc dX1_digest_107 rfl rfl rfl ?_
              refine R_goto (tgt := 34) dX1_digest_110 (by decide) ?_
              rw [fo_ge (by omega)] at hs3
              rw [fo_lt (by omega)] at hs2
              exact ih2 _ (by omega) (j + 1) _ _ _ rfl (by omega) (by omega) (by rw [hh3, hs3]) hs2
            · refine R_aload_n dX1_digest_52 rfl ?_
              refine R_aload_n dX1_digest_53 rfl ?_
              refine R_getR fX1_digest_16 dX1_digest_54 ?_
              refine R_bipush dX1_digest_57 (by decide) ?_
              refine R_iload_n dX1_digest_59 rfl ?_
              refine R_imul dX1_digest_60 ?_
              refine R_bipush dX1_digest_61 (by decide) ?_
              refine R_iload_n dX1_digest_63 rfl ?_
              refine R_imul dX1_digest_64 ?_
              refine R_iadd dX1_digest_65 ?_
              refine R_iload_n dX1_digest_66 rfl ?_
              refine R_iadd dX1_digest_67 ?_
              refine R_iald (q := 1) rfl rfl (by omega) rfl dX1_digest_68 ?_
              refine R_i2l (by omega) dX1_digest_69 ?_
              refine R_callV1 (k2 := kX1_mix) dX1_digest_70 rfl gX1_digest_X1_mix kkX1_mix rfl rfl (Nat.le_of_ble_eq_true rfl) (c_X1_mix ?_)
              show R _ _ _ _ 73 _ [] _ _ _
              refine R_aload_n dX1_digest_73 rfl ?_
              refine R_aload_n dX1_digest_74 rfl ?_
              refine R_getR fX1_digest_20 dX1_digest_75 ?_
              refine R_bipush dX1_digest_78 (by decide) ?_
              refine R_iload_n dX1_digest_80 rfl ?_
              refine R_imul dX1_digest_81 ?_
              refine R_bipush dX1_digest_82 (by decide) ?_
              refine R_iload_n dX1_digest_84 rfl ?_
              refine R_imul dX1_digest_85 ?_
              refine R_iadd dX1_digest_86 ?_
              refine R_iload_n dX1_digest_87 rfl ?_
              refine R_iadd dX1_digest_88 ?_
              refine R_bald (q := 2) rfl rfl rfl (by omega) rfl dX1_digest_89 ?_
              refine R_if_eq (tgt := 97) (by omega) dX1_digest_90 (by decide) (fun c90 => ?_) (fun c90 => ?_)
              · refine R_lconst 0 dX1_digest_97 rfl ?_
                refine R_callV1 (k2 := kX1_mix) dX1_digest_98 rfl gX1_digest_X1_mix kkX1_mix rfl rfl (Nat.le_of_ble_eq_true rfl) (c_X1_mix ?_)
                show R _ _ _ _ 101 _ [] _ _ _
                refine R_iinc dX1_digest_101 rfl rfl rfl ?_
                refine R_goto (tgt := 44) dX1_digest_104 (by decide) ?_
                rw [fo_lt (by omega), dgC_m] at hs3
                exact ih3 _ (by omega) (p + 1) _ _ rfl (by omega) (by omega) rfl (by rw [up_at, if_pos rfl, up_at, if_pos rfl, hh3]; rw [← hs3]; congr 1; omega)
              · refine R_lconst 1 dX1_digest_93 rfl ?_
                refine R_goto (tgt := 98) dX1_digest_94 (by decide) ?_
                refine R_callV1 (k2 := kX1_mix) dX1_digest_98 rfl gX1_digest_X1_mix kkX1_mix rfl rfl (Nat.le_of_ble_eq_true rfl) (c_X1_mix ?_)
                show R _ _ _ _ 101 _ [] _ _ _
                refine R_iinc dX1_digest_101 rfl rfl rfl ?_
                refine R_goto (tgt := 44) dX1_digest_104 (by decide) ?_
                rw [fo_lt (by omega), dgC_m] at hs3
                exact ih3 _ (by omega) (p + 1) _ _ rfl (by omega) (by omega) rfl (by rw [up_at, if_pos rfl, up_at, if_pos rfl, hh3]; rw [← hs3]; congr 1; omega)
          refine R_iconst dX1_digest_42 ?_
          refine R_istore_n dX1_digest_43 rfl rfl ?_
          exact loopA3 _ 0 s2 ζ2 rfl (by omega) (by omega) hh2 rfl
      refine R_iconst dX1_digest_32 ?_
      refine R_istore_n dX1_digest_33 rfl rfl ?_
      exact loopA2 _ 0 s _ ζ' rfl (by omega) (by omega) hh rfl
  refine R_aload_n dX1_digest_0 rfl ?_
  refine R_ldc2 193 dX1_digest_1 cnX1_digest_174 rfl ?_
  refine R_putLs 42 fX1_digest_170 rfl rfl rfl (by decide +kernel) dX1_digest_4 ?_
  refine R_aload_n dX1_digest_7 rfl ?_
  refine R_aload_n dX1_digest_8 rfl ?_
  refine R_getI 20 fX1_digest_7 rfl rfl dX1_digest_9 ?_
  refine R_i2l (by omega) dX1_digest_12 ?_
  refine R_callV1 (k2 := kX1_mix) dX1_digest_13 rfl gX1_digest_X1_mix kkX1_mix rfl rfl (Nat.le_of_ble_eq_true rfl) (c_X1_mix ?_)
  show R _ _ _ _ 16 _ [] _ _ _
  refine R_aload_n dX1_digest_16 rfl ?_
  refine R_aload_n dX1_digest_17 rfl ?_
  refine R_getI 21 fX1_digest_13 rfl rfl dX1_digest_18 ?_
  refine R_i2l (by omega) dX1_digest_21 ?_
  refine R_callV1 (k2 := kX1_mix) dX1_digest_22 rfl gX1_digest_X1_mix kkX1_mix rfl rfl (Nat.le_of_ble_eq_true rfl) (c_X1_mix ?_)
  show R _ _ _ _ 25 _ [] _ _ _
  refine R_iconst dX1_digest_25 ?_
  refine R_istore_n dX1_digest_26 rfl rfl ?_
  exact loopA _ 0 _ _ _ _ rfl (by omega) (by omega) rfl (by rw [up_at, if_pos rfl, up_at, if_pos rfl, up_at, if_pos rfl]; rfl)

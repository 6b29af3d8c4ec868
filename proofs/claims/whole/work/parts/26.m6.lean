/-! the search of the reference -/
def stM (τ : Sf) (P H : Int → Int) : Sf := fun k => if k = 9 then P else if k = 11 then H else τ k
theorem stM_9 {τ : Sf} {P H : Int → Int} {z v : Int} : up (stM τ P H) 9 z v = stM τ (upf P z v) H := by
  funext k w
  by_cases h9 : k = 9
  · subst h9
    rw [up_at]
    rfl
  · rw [up_ne h9]
    unfold stM
    rw [if_neg h9, if_neg h9]
theorem stM_11 {τ : Sf} {P H : Int → Int} {z v : Int} : up (stM τ P H) 11 z v = stM τ P (upf H z v) := by
  funext k w
  by_cases h11 : k = 11
  · subst h11
    rw [up_at]
    rfl
  · rw [up_ne h11]
    unfold stM
    by_cases h9 : k = 9
    · rw [if_pos h9, if_pos h9]
    · rw [if_neg h9, if_neg h9, if_neg h11, if_neg h11]
theorem stM_hr {τ : Sf} {P H : Int → Int} {x t : Int} : hrA (stM τ P H) 0 x t = stM τ P (hrF H x t) := by
  funext k w
  unfold hrA
  by_cases h11 : k = 11
  · subst h11
    rw [if_pos rfl]
    rfl
  · rw [if_neg h11]
    unfold stM
    by_cases h9 : k = 9
    · rw [if_pos h9, if_pos h9]
    · rw [if_neg h9, if_neg h9, if_neg h11, if_neg h11]
theorem hrF_back {H : Int → Int} {x : Int} : hrF (hrF H x 1) x (-1) = H := by
  funext w
  unfold hrF
  split <;> omega
theorem upf_upf {P : Int → Int} {z v u : Int} : upf (upf P z v) z u = upf P z u := by
  funext w
  unfold upf
  split <;> rfl
/-- whether the i-th programme of p may be, and what follows -/
def trM (W co mi : Int → Int) (lo hi t : Int) (f : Int → (Int → Int) → Option (Int → Int)) (p : Int) (H : Int → Int) (i : Int) : Option (Int → Int) := if i < co p ∧ (lo ≤ mnt mi (W (3 * p + i)) ∧ mnt mi (W (3 * p + i)) ≤ hi) ∧ bad H (W (3 * p + i)) t = 0 then (f (p + 1) (hrF H (W (3 * p + i)) 1)).map (fun g q => if q = p then i else g q) else none
def srM (W co mi : Int → Int) (lo hi t : Int) : Nat → Int → (Int → Int) → Option (Int → Int)
  | 0, _, _ => some (fun _ => -1)
  | k + 1, p, H => tr (trM W co mi lo hi t (srM W co mi lo hi t k) p H) 3 0
theorem srM_S (W co mi : Int → Int) (lo hi t : Int) (k : Nat) (p : Int) (H : Int → Int) : srM W co mi lo hi t (k + 1) p H = tr (trM W co mi lo hi t (srM W co mi lo hi t k) p H) 3 0 := rfl
def hsum (W P : Int → Int) (p n w : Int) : Int := sm (fun q => W (3 * q + P q) / p2 w % 2) p n
theorem hrF_bd {H : Int → Int} {x p : Int} (hb : ∀ w, 0 ≤ w → w < 12 → 0 ≤ H w ∧ H w ≤ p) : ∀ w, 0 ≤ w → w < 12 → 0 ≤ hrF H x 1 w ∧ hrF H x 1 w ≤ p + 1 := by
  intro w h1 h2
  have := hb w h1 h2
  unfold hrF
  rw [if_pos ⟨h1, h2⟩]
  omega
theorem upf_bd {P : Int → Int} {z v : Int} (hb : ∀ q, -1 ≤ P q ∧ P q ≤ 3) (hv : -1 ≤ v ∧ v ≤ 3) : ∀ q, -1 ≤ upf P z v q ∧ upf P z v q ≤ 3 := by
  intro q
  have := hb q
  unfold upf
  split <;> omega
theorem upf_at (P : Int → Int) (z v : Int) : upf P z v z = v := if_pos rfl
theorem upf_ne {P : Int → Int} {z v q : Int} (h : q ≠ z) : upf P z v q = P q := if_neg h


set_option maxHeartbeats 4000000 in
set_option maxRecDepth 100000 in
theorem plan_from {E : Ev} {d : Nat} {τ ζ : Sf} {Q : Option Value → Sf → Sf → Prop} {lo hi t : Int} (hI : InvM τ) (hlo : 0 ≤ lo ∧ lo ≤ 720) (hhi : 0 ≤ hi ∧ hi ≤ 720) (ht : 1 ≤ t ∧ t ≤ 3) : ∀ (k : Nat) (p : Int) (H P : Int → Int), (k : Int) + 1 = τ 20 0 - p → 0 ≤ p → p < τ 20 0 → P p = -1 → (∀ q, -1 ≤ P q ∧ P q ≤ 3) → (∀ w, 0 ≤ w → w < 12 → 0 ≤ H w ∧ H w ≤ p) → (∀ (g P' H' : Int → Int), srM (τ 8) (τ 7) (τ 6) lo hi t (k + 1) p H = some g → (∀ q, q < p → P' q = P q) → (∀ q, p ≤ q → q < τ 20 0 → P' q = g q) → (∀ q, -1 ≤ P' q ∧ P' q ≤ 3) → (∀ w, 0 ≤ w → w < 12 → H' w = H w + hsum (τ 8) P' p (τ 20 0) w) → R E GM kX1_plan (d + 3) 252 [some (.ref (eAd E 0)), some (.int (zI lo)), some (.int (zI hi)), some (.int (zI t)), some (.int (zI ((τ 20 0))))] [] (stM τ P' H') ζ Q) → (srM (τ 8) (τ 7) (τ 6) lo hi t (k + 1) p H = none → ∀ P' : Int → Int, (∀ q, q < p → P' q = P q) → (∀ q, -1 ≤ P' q ∧ P' q ≤ 3) → R E GM kX1_plan (d + 3) 68 [some (.ref (eAd E 0)), some (.int (zI lo)), some (.int (zI hi)), some (.int (zI t)), some (.int (zI ((p - 1))))] [] (stM τ P' H) ζ Q) → R E GM kX1_plan (d + 3) 68 [some (.ref (eAd E 0)), some (.int (zI lo)), some (.int (zI hi)), some (.int (zI t)), some (.int (zI p))] [] (stM τ P H) ζ Q := by
  obtain ⟨hn, hm, hmk, hys, hpu, hcu, hpl, hwe, hpr, hmi, hwo, hco, hch, hhp⟩ := id hI
  refine st_ind (fun k ih => ?_)
  intro p H P hk hp hpn hPp0 hPb0 hHb hS0 hF0
  have next : ∀ (i : Int) (P : Int → Int), 0 ≤ i → i < τ 7 p → P p = i → (∀ q, -1 ≤ P q ∧ P q ≤ 3) → bad H (τ 8 (3 * p + i)) t = 0 → (∀ (g P' H' : Int → Int), srM (τ 8) (τ 7) (τ 6) lo hi t k (p + 1) (hrF H (τ 8 (3 * p + i)) 1) = some g → (∀ q, q < (p + 1) → P' q = P q) → (∀ q, (p + 1) ≤ q → q < τ 20 0 → P' q = g q) → (∀ q, -1 ≤ P' q ∧ P' q ≤ 3) → (∀ w, 0 ≤ w → w < 12 → H' w = (hrF H (τ 8 (3 * p + i)) 1) w + hsum (τ 8) P' (p + 1) (τ 20 0) w) → R E GM kX1_plan (d + 3) 252 [some (.ref (eAd E 0)), some (.int (zI lo)), some (.int (zI hi)), some (.int (zI t)), some (.int (zI ((τ 20 0))))] [] (stM τ P' H') ζ Q) → (srM (τ 8) (τ 7) (τ 6) lo hi t k (p + 1) (hrF H (τ 8 (3 * p + i)) 1) = none → ∀ P' : Int → Int, (∀ q, q < p + 1 → P' q = P q) → (∀ q, -1 ≤ P' q ∧ P' q ≤ 3) → R E GM kX1_plan (d + 3) 68 [some (.ref (eAd E 0)), some (.int (zI lo)), some (.int (zI hi)), some (.int (zI t)), some (.int (zI p))] [] (stM τ P' (if i = -1 then H else hrF H (τ 8 (3 * p + i)) 1)) ζ Q) → R E GM kX1_plan (d + 3) 226 [some (.ref (eAd E 0)), some (.int (zI lo)), some (.int (zI hi)), some (.int (zI t)), some (.int (zI ((p + 1))))] [] (stM τ P (hrF H (τ 8 (3 * p + i)) 1)) ζ Q := by
    intro i P hi0 hic hPi hPb hbad hS hF
    have e20 : stM τ P (hrF H (τ 8 (3 * p + i)) 1) 20 0 = τ 20 0 := rfl
    rw [if_neg (by omega)] at hF
    refine R_iload dX1_plan_226 rfl ?_
    refine R_aload_n dX1_plan_228 rfl ?_
    refine R_getI 20 fX1_plan_7 rfl rfl dX1_plan_229 ?_
    refine R_icmp_ge (tgt := 68) (by omega) dX1_plan_232 (by decide) (fun c232 => ?_) (fun c232 => ?_)
    · by_cases hlast : p + 1 < τ 20 0
      · first
        | (exfalso; omega)
        | (rw [stM_9]
           obtain ⟨k0, rfl⟩ : ∃ k0 : Nat, k = k0 + 1 := ⟨k - 1, by omega⟩
           exact ih k0 (by omega) (p + 1) (hrF H (τ 8 (3 * p + i)) 1) (upf P (p + 1) (-1)) (by omega) (by omega) hlast (upf_at P (p + 1) (-1)) (upf_bd hPb (by omega)) (hrF_bd hHb) (fun g P' H' a1 a2 a3 a4 a5 => hS g P' H' a1 (fun q hq => (a2 q hq).trans (upf_ne (by omega))) a3 a4 a5) (fun a1 P' a2 a3 => by
             have := hF a1 P' (fun q hq => (a2 q hq).trans (upf_ne (by omega))) a3
             rw [show p + 1 - 1 = p by omega]
             exact this))
      · first
        | (exfalso; omega)
        | (have hk0 : k = 0 := by omega
           subst hk0
           have hpn : p + 1 = τ 20 0 := by omega
           refine R_iload dX1_plan_68 rfl ?_
           refine R_if_lt (tgt := 252) (by omega) dX1_plan_70 (by decide) (fun c70 => absurd c70 (by omega)) (fun c70 => ?_)
           refine R_iload dX1_plan_73 rfl ?_
           refine R_aload_n dX1_plan_75 rfl ?_
           refine R_getI 20 fX1_plan_7 rfl rfl dX1_plan_76 ?_
           refine R_icmp_ge (tgt := 252) (by omega) dX1_plan_79 (by decide) (fun c79 => ?_) (fun c79 => absurd c79 (by omega))
           rw [hpn]
           exact hS (fun _ => -1) P (hrF H (τ 8 (3 * p + i)) 1) rfl (fun _ _ => rfl) (fun q h1 h2 => by omega) hPb (fun w h1 h2 => by unfold hsum; rw [sm_ge (by omega)]; omega))
    · refine R_aload_n dX1_plan_235 rfl ?_
      refine R_getR fX1_plan_48 dX1_plan_236 ?_
      refine R_iload dX1_plan_239 rfl ?_
      refine R_iconst dX1_plan_241 ?_
      refine R_iast (q := 9) GMok rfl rfl (by omega) rfl dX1_plan_242 ?_
      refine R_goto (tgt := 68) dX1_plan_243 (by decide) ?_
      by_cases hlast : p + 1 < τ 20 0
      · first
        | (exfalso; omega)
        | (rw [stM_9]
           obtain ⟨k0, rfl⟩ : ∃ k0 : Nat, k = k0 + 1 := ⟨k - 1, by omega⟩
           exact ih k0 (by omega) (p + 1) (hrF H (τ 8 (3 * p + i)) 1) (upf P (p + 1) (-1)) (by omega) (by omega) hlast (upf_at P (p + 1) (-1)) (upf_bd hPb (by omega)) (hrF_bd hHb) (fun g P' H' a1 a2 a3 a4 a5 => hS g P' H' a1 (fun q hq => (a2 q hq).trans (upf_ne (by omega))) a3 a4 a5) (fun a1 P' a2 a3 => by
             have := hF a1 P' (fun q hq => (a2 q hq).trans (upf_ne (by omega))) a3
             rw [show p + 1 - 1 = p by omega]
             exact this))
      · first
        | (exfalso; omega)
        | (have hk0 : k = 0 := by omega
           subst hk0
           have hpn : p + 1 = τ 20 0 := by omega
           refine R_iload dX1_plan_68 rfl ?_
           refine R_if_lt (tgt := 252) (by omega) dX1_plan_70 (by decide) (fun c70 => absurd c70 (by omega)) (fun c70 => ?_)
           refine R_iload dX1_plan_73 rfl ?_
           refine R_aload_n dX1_plan_75 rfl ?_
           refine R_getI 20 fX1_plan_7 rfl rfl dX1_plan_76 ?_
           refine R_icmp_ge (tgt := 252) (by omega) dX1_plan_79 (by decide) (fun c79 => ?_) (fun c79 => absurd c79 (by omega))
           rw [hpn]
           exact hS (fun _ => -1) P (hrF H (τ 8 (3 * p + i)) 1) rfl (fun _ _ => rfl) (fun q h1 h2 => by omega) hPb (fun w h1 h2 => by unfold hsum; rw [sm_ge (by omega)]; omega))
  have LB : ∀ (M : Nat) (c : Int) (P : Int → Int), (M : Int) = 2 - c → -1 ≤ c → P p = c → (∀ q, -1 ≤ P q ∧ P q ≤ 3) → (∀ (i : Int) (P : Int → Int), (M : Int) = 3 - i → 0 ≤ i → P p = i → (∀ q, -1 ≤ P q ∧ P q ≤ 3) → (∀ (g P' H' : Int → Int), tr (trM (τ 8) (τ 7) (τ 6) lo hi t (srM (τ 8) (τ 7) (τ 6) lo hi t k) p H) M i = some g → (∀ q, q < p → P' q = P q) → (∀ q, p ≤ q → q < τ 20 0 → P' q = g q) → (∀ q, -1 ≤ P' q ∧ P' q ≤ 3) → (∀ w, 0 ≤ w → w < 12 → H' w = H w + hsum (τ 8) P' p (τ 20 0) w) → R E GM kX1_plan (d + 3) 252 [some (.ref (eAd E 0)), some (.int (zI lo)), some (.int (zI hi)), some (.int (zI t)), some (.int (zI ((τ 20 0))))] [] (stM τ P' H') ζ Q) → (tr (trM (τ 8) (τ 7) (τ 6) lo hi t (srM (τ 8) (τ 7) (τ 6) lo hi t k) p H) M i = none → ∀ P' : Int → Int, (∀ q, q < p → P' q = P q) → (∀ q, -1 ≤ P' q ∧ P' q ≤ 3) → R E GM kX1_plan (d + 3) 68 [some (.ref (eAd E 0)), some (.int (zI lo)), some (.int (zI hi)), some (.int (zI t)), some (.int (zI ((p - 1))))] [] (stM τ P' H) ζ Q) → R E GM kX1_plan (d + 3) 126 [some (.ref (eAd E 0)), some (.int (zI lo)), some (.int (zI hi)), some (.int (zI t)), some (.int (zI p))] [] (stM τ P H) ζ Q) → (∀ (g P' H' : Int → Int), tr (trM (τ 8) (τ 7) (τ 6) lo hi t (srM (τ 8) (τ 7) (τ 6) lo hi t k) p H) M (c + 1) = some g → (∀ q, q < p → P' q = P q) → (∀ q, p ≤ q → q < τ 20 0 → P' q = g q) → (∀ q, -1 ≤ P' q ∧ P' q ≤ 3) → (∀ w, 0 ≤ w → w < 12 → H' w = H w + hsum (τ 8) P' p (τ 20 0) w) → R E GM kX1_plan (d + 3) 252 [some (.ref (eAd E 0)), some (.int (zI lo)), some (.int (zI hi)), some (.int (zI t)), some (.int (zI ((τ 20 0))))] [] (stM τ P' H') ζ Q) → (tr (trM (τ 8) (τ 7) (τ 6) lo hi t (srM (τ 8) (τ 7) (τ 6) lo hi t k) p H) M (c + 1) = none → ∀ P' : Int → Int, (∀ q, q < p → P' q = P q) → (∀ q, -1 ≤ P' q ∧ P' q ≤ 3) → R E GM kX1_plan (d + 3) 68 [some (.ref (eAd E 0)), some (.int (zI lo)), some (.int (zI hi)), some (.int (zI t)), some (.int (zI ((p - 1))))] [] (stM τ P' H) ζ Q) → R E GM kX1_plan (d + 3) 68 [some (.ref (eAd E 0)), some (.int (zI lo)), some (.int (zI hi)), some (.int (zI t)), some (.int (zI p))] [] (stM τ P (if c = -1 then H else hrF H (τ 8 (3 * p + c)) 1)) ζ Q := by
    intro M c P hM hc hPc hPb ihm hS hF
    generalize hHH : (if c = -1 then H else hrF H (τ 8 (3 * p + c)) 1) = HH
    have e20 : stM τ P HH 20 0 = τ 20 0 := rfl
    have e9 : stM τ P HH 9 p = P p := rfl
    have hPp := hPb p
    refine R_iload dX1_plan_68 rfl ?_
    refine R_if_lt (tgt := 252) (by omega) dX1_plan_70 (by decide) (fun c70 => absurd c70 (by omega)) (fun c70 => ?_)
    refine R_iload dX1_plan_73 rfl ?_
    refine R_aload_n dX1_plan_75 rfl ?_
    refine R_getI 20 fX1_plan_7 rfl rfl dX1_plan_76 ?_
    refine R_icmp_ge (tgt := 252) (by omega) dX1_plan_79 (by decide) (fun c79 => absurd c79 (by omega)) (fun c79 => ?_)
    refine R_aload_n dX1_plan_82 rfl ?_
    refine R_getR fX1_plan_48 dX1_plan_83 ?_
    refine R_iload dX1_plan_86 rfl ?_
    refine R_iald (q := 9) rfl rfl (by omega) rfl dX1_plan_88 ?_
    refine R_iconst dX1_plan_89 ?_
    refine R_icmp_eq (tgt := 115) (by omega) dX1_plan_90 (by decide) (fun c90 => ?_) (fun c90 => ?_)
    · refine R_aload_n dX1_plan_115 rfl ?_
      refine R_getR fX1_plan_48 dX1_plan_116 ?_
      refine R_iload dX1_plan_119 rfl ?_
      refine R_dup2 rfl rfl dX1_plan_121 ?_
      refine R_iald (q := 9) rfl rfl (by omega) rfl dX1_plan_122 ?_
      refine R_iconst dX1_plan_123 ?_
      refine R_iadd dX1_plan_124 ?_
      refine R_iast (q := 9) GMok rfl rfl (by omega) rfl dX1_plan_125 ?_
      first
      | (rw [stM_9, show stM τ P H 9 p = c from hPc]
         exact ihm (c + 1) (upf P p (c + 1)) (by omega) (by omega) (upf_at P p (c + 1)) (upf_bd hPb (by omega)) (fun g P' H' a1 a2 a3 a4 a5 => hS g P' H' a1 (fun q hq => (a2 q hq).trans (upf_ne (by omega))) a3 a4 a5) (fun a1 P' a2 a3 => hF a1 P' (fun q hq => (a2 q hq).trans (upf_ne (by omega))) a3))
      | (rw [if_pos (show c = -1 by omega)] at hHH
         subst hHH
         rw [stM_9, show stM τ P H 9 p = c from hPc]
         exact ihm (c + 1) (upf P p (c + 1)) (by omega) (by omega) (upf_at P p (c + 1)) (upf_bd hPb (by omega)) (fun g P' H' a1 a2 a3 a4 a5 => hS g P' H' a1 (fun q hq => (a2 q hq).trans (upf_ne (by omega))) a3 a4 a5) (fun a1 P' a2 a3 => hF a1 P' (fun q hq => (a2 q hq).trans (upf_ne (by omega))) a3))
    · refine R_aload_n dX1_plan_93 rfl ?_
      refine R_aload_n dX1_plan_94 rfl ?_
      refine R_getR fX1_plan_45 dX1_plan_95 ?_
      refine R_iconst dX1_plan_98 ?_
      refine R_iload dX1_plan_99 rfl ?_
      refine R_imul dX1_plan_101 ?_
      refine R_aload_n dX1_plan_102 rfl ?_
      refine R_getR fX1_plan_48 dX1_plan_103 ?_
      refine R_iload dX1_plan_106 rfl ?_
      refine R_iald (q := 9) rfl rfl (by omega) rfl dX1_plan_108 ?_
      refine R_iadd dX1_plan_109 ?_
      refine R_iald (q := 8) rfl rfl (by omega) rfl dX1_plan_110 ?_
      refine R_iconst dX1_plan_111 ?_
      refine R_callV2 (k2 := kX1_hear) dX1_plan_112 rfl gX1_plan_X1_hear kkX1_hear rfl rfl (Nat.le_of_ble_eq_true rfl) (c_X1_hear (τ := stM τ P HH) (hwo _) ?_)
      show R _ _ _ _ 115 _ [] _ _ _
      have e8p : stM τ P HH 8 (3 * p + stM τ P HH 9 p) = τ 8 (3 * p + c) := by
        rw [e9, hPc]
        rfl
      rw [stM_hr, e8p, ← hHH, if_neg (by omega), hrF_back]
      refine R_aload_n dX1_plan_115 rfl ?_
      refine R_getR fX1_plan_48 dX1_plan_116 ?_
      refine R_iload dX1_plan_119 rfl ?_
      refine R_dup2 rfl rfl dX1_plan_121 ?_
      refine R_iald (q := 9) rfl rfl (by omega) rfl dX1_plan_122 ?_
      refine R_iconst dX1_plan_123 ?_
      refine R_iadd dX1_plan_124 ?_
      refine R_iast (q := 9) GMok rfl rfl (by omega) rfl dX1_plan_125 ?_
      first
      | (rw [stM_9, show stM τ P H 9 p = c from hPc]
         exact ihm (c + 1) (upf P p (c + 1)) (by omega) (by omega) (upf_at P p (c + 1)) (upf_bd hPb (by omega)) (fun g P' H' a1 a2 a3 a4 a5 => hS g P' H' a1 (fun q hq => (a2 q hq).trans (upf_ne (by omega))) a3 a4 a5) (fun a1 P' a2 a3 => hF a1 P' (fun q hq => (a2 q hq).trans (upf_ne (by omega))) a3))
      | (rw [if_pos (show c = -1 by omega)] at hHH
         subst hHH
         rw [stM_9, show stM τ P H 9 p = c from hPc]
         exact ihm (c + 1) (upf P p (c + 1)) (by omega) (by omega) (upf_at P p (c + 1)) (upf_bd hPb (by omega)) (fun g P' H' a1 a2 a3 a4 a5 => hS g P' H' a1 (fun q hq => (a2 q hq).trans (upf_ne (by omega))) a3 a4 a5) (fun a1 P' a2 a3 => hF a1 P' (fun q hq => (a2 q hq).trans (upf_ne (by omega))) a3))
  have LA : ∀ (M : Nat) (i : Int) (P : Int → Int), (M : Int) = 3 - i → 0 ≤ i → P p = i → (∀ q, -1 ≤ P q ∧ P q ≤ 3) → (∀ (g P' H' : Int → Int), tr (trM (τ 8) (τ 7) (τ 6) lo hi t (srM (τ 8) (τ 7) (τ 6) lo hi t k) p H) M i = some g → (∀ q, q < p → P' q = P q) → (∀ q, p ≤ q → q < τ 20 0 → P' q = g q) → (∀ q, -1 ≤ P' q ∧ P' q ≤ 3) → (∀ w, 0 ≤ w → w < 12 → H' w = H w + hsum (τ 8) P' p (τ 20 0) w) → R E GM kX1_plan (d + 3) 252 [some (.ref (eAd E 0)), some (.int (zI lo)), some (.int (zI hi)), some (.int (zI t)), some (.int (zI ((τ 20 0))))] [] (stM τ P' H') ζ Q) → (tr (trM (τ 8) (τ 7) (τ 6) lo hi t (srM (τ 8) (τ 7) (τ 6) lo hi t k) p H) M i = none → ∀ P' : Int → Int, (∀ q, q < p → P' q = P q) → (∀ q, -1 ≤ P' q ∧ P' q ≤ 3) → R E GM kX1_plan (d + 3) 68 [some (.ref (eAd E 0)), some (.int (zI lo)), some (.int (zI hi)), some (.int (zI t)), some (.int (zI ((p - 1))))] [] (stM τ P' H) ζ Q) → R E GM kX1_plan (d + 3) 126 [some (.ref (eAd E 0)), some (.int (zI lo)), some (.int (zI hi)), some (.int (zI t)), some (.int (zI p))] [] (stM τ P H) ζ Q := by
    intro M
    induction M with
    | zero =>
      intro i P hM hi0 hPi hPb hS hF
      have e9 : stM τ P H 9 p = P p := rfl
      have e7 : stM τ P H 7 p = τ 7 p := rfl
      have hcp := hco p
      have hPp := hPb p
      refine R_aload_n dX1_plan_126 rfl ?_
      refine R_getR fX1_plan_48 dX1_plan_127 ?_
      refine R_iload dX1_plan_130 rfl ?_
      refine R_iald (q := 9) rfl rfl (by omega) rfl dX1_plan_132 ?_
      refine R_aload_n dX1_plan_133 rfl ?_
      refine R_getR fX1_plan_42 dX1_plan_134 ?_
      refine R_iload dX1_plan_137 rfl ?_
      refine R_iald (q := 7) rfl rfl (by omega) rfl dX1_plan_139 ?_
      refine R_icmp_ge (tgt := 184) (by omega) dX1_plan_140 (by decide) (fun c140 => ?_) (fun c140 => absurd c140 (by omega))
      refine R_aload_n dX1_plan_184 rfl ?_
      refine R_getR fX1_plan_48 dX1_plan_185 ?_
      refine R_iload dX1_plan_188 rfl ?_
      refine R_iald (q := 9) rfl rfl (by omega) rfl dX1_plan_190 ?_
      refine R_aload_n dX1_plan_191 rfl ?_
      refine R_getR fX1_plan_42 dX1_plan_192 ?_
      refine R_iload dX1_plan_195 rfl ?_
      refine R_iald (q := 7) rfl rfl (by omega) rfl dX1_plan_197 ?_
      refine R_icmp_ge (tgt := 246) (by omega) dX1_plan_198 (by decide) (fun c198 => ?_) (fun c198 => absurd c198 (by omega))
      refine R_iinc dX1_plan_246 rfl rfl rfl ?_
      refine R_goto (tgt := 68) dX1_plan_249 (by decide) ?_
      exact hF rfl P (fun _ _ => rfl) hPb
    | succ M ihm =>
      intro i P hM hi0 hPi hPb hS hF
      have e9 : stM τ P H 9 p = P p := rfl
      have e7 : stM τ P H 7 p = τ 7 p := rfl
      have e8 : ∀ z, stM τ P H 8 z = τ 8 z := fun _ => rfl
      have hcp := hco p
      have hPp := hPb p
      by_cases hic : i < τ 7 p
      · have hx := hwo (3 * p + i)
        refine R_aload_n dX1_plan_126 rfl ?_
        refine R_getR fX1_plan_48 dX1_plan_127 ?_
        refine R_iload dX1_plan_130 rfl ?_
        refine R_iald (q := 9) rfl rfl (by omega) rfl dX1_plan_132 ?_
        refine R_aload_n dX1_plan_133 rfl ?_
        refine R_getR fX1_plan_42 dX1_plan_134 ?_
        refine R_iload dX1_plan_137 rfl ?_
        refine R_iald (q := 7) rfl rfl (by omega) rfl dX1_plan_139 ?_
        refine R_icmp_ge (tgt := 184) (by omega) dX1_plan_140 (by decide) (fun c140 => absurd c140 (by omega)) (fun c140 => ?_)
        refine R_aload_n dX1_plan_143 rfl ?_
        refine R_aload_n dX1_plan_144 rfl ?_
        refine R_getR fX1_plan_45 dX1_plan_145 ?_
        refine R_iconst dX1_plan_148 ?_
        refine R_iload dX1_plan_149 rfl ?_
        refine R_imul dX1_plan_151 ?_
        refine R_aload_n dX1_plan_152 rfl ?_
        refine R_getR fX1_plan_48 dX1_plan_153 ?_
        refine R_iload dX1_plan_156 rfl ?_
        refine R_iald (q := 9) rfl rfl (by omega) rfl dX1_plan_158 ?_
        refine R_iadd dX1_plan_159 ?_
        refine R_iald (q := 8) rfl rfl (by omega) rfl dX1_plan_160 ?_
        refine R_iload_n dX1_plan_161 rfl ?_
        refine R_iload_n dX1_plan_162 rfl ?_
        refine R_iload_n dX1_plan_163 rfl ?_
        refine R_callV4 (k2 := kX1_mayBe) dX1_plan_164 rfl gX1_plan_X1_mayBe kkX1_mayBe rfl rfl (Nat.le_of_ble_eq_true rfl) (c_X1_mayBe (τ := stM τ P H) (hwo _) hlo hhi ht hmi (fun w g1 g2 => by have := hHb w g1 g2; show 0 ≤ H w ∧ H w ≤ 100; omega) (fun b164 => ?_) (fun b164 => ?_))
        · show R _ _ _ _ 167 _ [_] _ _ _
          
          refine R_if_ne (tgt := 184) (by decide) dX1_plan_167 (by decide) (fun _ => ?_) (fun h => absurd h (by decide))
          refine R_aload_n dX1_plan_184 rfl ?_
          refine R_getR fX1_plan_48 dX1_plan_185 ?_
          refine R_iload dX1_plan_188 rfl ?_
          refine R_iald (q := 9) rfl rfl (by omega) rfl dX1_plan_190 ?_
          refine R_aload_n dX1_plan_191 rfl ?_
          refine R_getR fX1_plan_42 dX1_plan_192 ?_
          refine R_iload dX1_plan_195 rfl ?_
          refine R_iald (q := 7) rfl rfl (by omega) rfl dX1_plan_197 ?_
          refine R_icmp_ge (tgt := 246) (by omega) dX1_plan_198 (by decide) (fun c198 => absurd c198 (by omega)) (fun c198 => ?_)
          refine R_aload_n dX1_plan_201 rfl ?_
          refine R_aload_n dX1_plan_202 rfl ?_
          refine R_getR fX1_plan_45 dX1_plan_203 ?_
          refine R_iconst dX1_plan_206 ?_
          refine R_iload dX1_plan_207 rfl ?_
          refine R_imul dX1_plan_209 ?_
          refine R_aload_n dX1_plan_210 rfl ?_
          refine R_getR fX1_plan_48 dX1_plan_211 ?_
          refine R_iload dX1_plan_214 rfl ?_
          refine R_iald (q := 9) rfl rfl (by omega) rfl dX1_plan_216 ?_
          refine R_iadd dX1_plan_217 ?_
          refine R_iald (q := 8) rfl rfl (by omega) rfl dX1_plan_218 ?_
          refine R_iconst dX1_plan_219 ?_
          refine R_callV2 (k2 := kX1_hear) dX1_plan_220 rfl gX1_plan_X1_hear kkX1_hear rfl rfl (Nat.le_of_ble_eq_true rfl) (c_X1_hear (τ := stM τ P H) (hwo _) ?_)
          show R _ _ _ _ 223 _ [] _ _ _
          rw [stM_hr]
          have e8p : stM τ P H 8 (3 * p + stM τ P H 9 p) = τ 8 (3 * p + i) := by
            rw [e9, hPi]
            rfl
          rw [e8p]
          refine R_iinc dX1_plan_223 rfl rfl rfl ?_
          have hb : (lo ≤ mnt (τ 6) (τ 8 (3 * p + i)) ∧ mnt (τ 6) (τ 8 (3 * p + i)) ≤ hi) ∧ bad H (τ 8 (3 * p + i)) t = 0 := by
            have b := b164
            rw [show stM τ P H 8 (3 * p + stM τ P H 9 p) = τ 8 (3 * p + i) by rw [e9, hPi]; rfl] at b
            exact b
          have e : trM (τ 8) (τ 7) (τ 6) lo hi t (srM (τ 8) (τ 7) (τ 6) lo hi t k) p H i = (srM (τ 8) (τ 7) (τ 6) lo hi t k (p + 1) (hrF H (τ 8 (3 * p + i)) 1)).map (fun g q => if q = p then i else g q) := by
            unfold trM
            rw [if_pos ⟨hic, hb⟩]
          rw [tr_S, e] at hS hF
          have hsplit : ∀ P' : Int → Int, P' p = i → ∀ w, hsum (τ 8) P' p (τ 20 0) w = τ 8 (3 * p + i) / p2 w % 2 + hsum (τ 8) P' (p + 1) (τ 20 0) w := by
            intro P' h w
            unfold hsum
            rw [sm_lt (by omega), h]
          exact next i P hi0 hic hPi hPb hb.2 (fun g P' H' a1 a2 a3 a4 a5 => by
              rw [a1] at hS
              refine hS _ P' H' rfl (fun q hq => a2 q (by omega)) (fun q h1 h2 => ?_) a4 (fun w h1 h2 => ?_)
              · show P' q = if q = p then i else g q
                by_cases hq : q = p
                · subst hq
                  rw [if_pos rfl, a2 q (by omega), hPi]
                · rw [if_neg hq]
                  exact a3 q (by omega) h2
              · rw [hsplit P' ((a2 p (by omega)).trans hPi) w, a5 w h1 h2]
                unfold hrF
                rw [if_pos ⟨h1, h2⟩]
                omega) (fun a1 P' a2 a3 => by
              rw [a1] at hS hF
              refine LB M i P' (by omega) (by omega) ((a2 p (by omega)).trans hPi) a3 ihm (fun g P2 H2 c1 c2 c3 c4 c5 => hS g P2 H2 c1 (fun q hq => (c2 q hq).trans (a2 q (by omega))) c3 c4 c5) (fun c1 P2 c2 c3 => hF c1 P2 (fun q hq => (c2 q hq).trans (a2 q (by omega))) c3))
        · show R _ _ _ _ 167 _ [_] _ _ _
          
          refine R_if_ne (tgt := 184) (by decide) dX1_plan_167 (by decide) (fun h => absurd h (by decide)) (fun _ => ?_)
          refine R_aload_n dX1_plan_170 rfl ?_
          refine R_getR fX1_plan_48 dX1_plan_171 ?_
          refine R_iload dX1_plan_174 rfl ?_
          refine R_dup2 rfl rfl dX1_plan_176 ?_
          refine R_iald (q := 9) rfl rfl (by omega) rfl dX1_plan_177 ?_
          refine R_iconst dX1_plan_178 ?_
          refine R_iadd dX1_plan_179 ?_
          refine R_iast (q := 9) GMok rfl rfl (by omega) rfl dX1_plan_180 ?_
          refine R_goto (tgt := 126) dX1_plan_181 (by decide) ?_
          have hb : ¬ ((lo ≤ mnt (τ 6) (τ 8 (3 * p + i)) ∧ mnt (τ 6) (τ 8 (3 * p + i)) ≤ hi) ∧ bad H (τ 8 (3 * p + i)) t = 0) := by
            have b := b164
            rw [show stM τ P H 8 (3 * p + stM τ P H 9 p) = τ 8 (3 * p + i) by rw [e9, hPi]; rfl] at b
            exact b
          have e : trM (τ 8) (τ 7) (τ 6) lo hi t (srM (τ 8) (τ 7) (τ 6) lo hi t k) p H i = none := by
            unfold trM
            rw [if_neg (fun q => hb q.2)]
          rw [tr_S, e] at hS hF
          rw [stM_9, e9, hPi]
          refine ihm (i + 1) (upf P p (i + 1)) (by omega) (by omega) (upf_at P p (i + 1)) (upf_bd hPb (by omega)) (fun g P' H' a1 a2 a3 a4 a5 => hS g P' H' a1 (fun q hq => (a2 q hq).trans (upf_ne (by omega))) a3 a4 a5) (fun a1 P' a2 a3 => hF a1 P' (fun q hq => (a2 q hq).trans (upf_ne (by omega))) a3)
      · have e : tr (trM (τ 8) (τ 7) (τ 6) lo hi t (srM (τ 8) (τ 7) (τ 6) lo hi t k) p H) (M + 1) i = none := tr_none _ _ (fun j hj => by unfold trM; rw [if_neg (by omega)])
        refine R_aload_n dX1_plan_126 rfl ?_
        refine R_getR fX1_plan_48 dX1_plan_127 ?_
        refine R_iload dX1_plan_130 rfl ?_
        refine R_iald (q := 9) rfl rfl (by omega) rfl dX1_plan_132 ?_
        refine R_aload_n dX1_plan_133 rfl ?_
        refine R_getR fX1_plan_42 dX1_plan_134 ?_
        refine R_iload dX1_plan_137 rfl ?_
        refine R_iald (q := 7) rfl rfl (by omega) rfl dX1_plan_139 ?_
        refine R_icmp_ge (tgt := 184) (by omega) dX1_plan_140 (by decide) (fun c140 => ?_) (fun c140 => absurd c140 (by omega))
        refine R_aload_n dX1_plan_184 rfl ?_
        refine R_getR fX1_plan_48 dX1_plan_185 ?_
        refine R_iload dX1_plan_188 rfl ?_
        refine R_iald (q := 9) rfl rfl (by omega) rfl dX1_plan_190 ?_
        refine R_aload_n dX1_plan_191 rfl ?_
        refine R_getR fX1_plan_42 dX1_plan_192 ?_
        refine R_iload dX1_plan_195 rfl ?_
        refine R_iald (q := 7) rfl rfl (by omega) rfl dX1_plan_197 ?_
        refine R_icmp_ge (tgt := 246) (by omega) dX1_plan_198 (by decide) (fun c198 => ?_) (fun c198 => absurd c198 (by omega))
        refine R_iinc dX1_plan_246 rfl rfl rfl ?_
        refine R_goto (tgt := 68) dX1_plan_249 (by decide) ?_
        exact hF e P (fun _ _ => rfl) hPb
  have h := LB 3 (-1) P (by omega) (by omega) hPp0 hPb0 (LA 3) (fun g P' H' a1 a2 a3 a4 a5 => hS0 g P' H' a1 a2 a3 a4 a5) (fun a1 P' a2 a3 => hF0 a1 P' a2 a3)
  rw [if_pos rfl] at h
  exact h
def H00 (τ : Sf) : Int → Int := fun w => if 0 ≤ w ∧ w < 12 then 0 else τ 11 w
def plM (τ : Sf) (lo hi t : Int) : Option (Int → Int) := srM (τ 8) (τ 7) (τ 6) lo hi t (τ 20 0).toNat 0 (H00 τ)
theorem fil_11 {τ : Sf} : fil τ 11 0 12 0 = stM τ (τ 9) (H00 τ) := by
  funext k w
  unfold fil stM
  by_cases h11 : k = 11
  · subst h11
    rfl
  · rw [if_neg h11]
    by_cases h9 : k = 9
    · rw [if_pos h9, h9]
    · rw [if_neg h9, if_neg h11]
theorem plan_end {E : Ev} {d : Nat} {τ ζ : Sf} {Q : Option Value → Sf → Sf → Prop} {lo hi t p b : Int} {P H : Int → Int} (hI : InvM τ) (hp : -1 ≤ p ∧ p ≤ 10) (hb : b = if p = τ 20 0 then 1 else 0) (hQ : Q (some (.int (zI b))) (up (stM τ P H) 32 0 b) ζ) : R E GM kX1_plan (d + 3) 252 [some (.ref (eAd E 0)), some (.int (zI lo)), some (.int (zI hi)), some (.int (zI t)), some (.int (zI p))] [] (stM τ P H) ζ Q := by
  obtain ⟨hn, hm, hmk, hys, hpu, hcu, hpl, hwe, hpr, hmi, hwo, hco, hch, hhp⟩ := id hI
  have e20 : stM τ P H 20 0 = τ 20 0 := rfl
  have e32 : up (stM τ P H) 32 0 1 32 0 = 1 := by rw [up_at, if_pos rfl]
  have e320 : up (stM τ P H) 32 0 0 32 0 = 0 := by rw [up_at, if_pos rfl]
  refine R_aload_n dX1_plan_252 rfl ?_
  refine R_iload dX1_plan_253 rfl ?_
  refine R_aload_n dX1_plan_255 rfl ?_
  refine R_getI 20 fX1_plan_7 rfl rfl dX1_plan_256 ?_
  refine R_icmp_ne (tgt := 266) (by omega) dX1_plan_259 (by decide) (fun c259 => ?_) (fun c259 => ?_)
  · refine R_iconst dX1_plan_266 ?_
    refine R_putZ 32 fX1_plan_60 (by decide) rfl rfl rfl (by decide +kernel) dX1_plan_267 ?_
    refine R_aload_n dX1_plan_270 rfl ?_
    refine R_getI 32 fX1_plan_60 rfl rfl dX1_plan_271 ?_
    refine R_if_eq (tgt := 281) (by first | (rw [e32]; omega) | (rw [e320]; omega)) dX1_plan_274 (by decide) (fun c274 => ?_) (fun c274 => ?_)
    · refine R_iconst dX1_plan_281 ?_
      refine R_iret rfl dX1_plan_282 ?_
      first
      | (rw [if_pos (by omega)] at hb
         subst hb
         first
         | exact hQ
         | (exfalso; rw [e32] at c274; omega))
      | (rw [if_neg (by omega)] at hb
         subst hb
         first
         | exact hQ
         | (exfalso; rw [e320] at c274; omega))
    · refine R_iconst dX1_plan_277 ?_
      refine R_goto (tgt := 282) dX1_plan_278 (by decide) ?_
      refine R_iret rfl dX1_plan_282 ?_
      first
      | (rw [if_pos (by omega)] at hb
         subst hb
         first
         | exact hQ
         | (exfalso; rw [e32] at c274; omega))
      | (rw [if_neg (by omega)] at hb
         subst hb
         first
         | exact hQ
         | (exfalso; rw [e320] at c274; omega))
  · refine R_iconst dX1_plan_262 ?_
    refine R_goto (tgt := 267) dX1_plan_263 (by decide) ?_
    refine R_putZ 32 fX1_plan_60 (by decide) rfl rfl rfl (by decide +kernel) dX1_plan_267 ?_
    refine R_aload_n dX1_plan_270 rfl ?_
    refine R_getI 32 fX1_plan_60 rfl rfl dX1_plan_271 ?_
    refine R_if_eq (tgt := 281) (by first | (rw [e32]; omega) | (rw [e320]; omega)) dX1_plan_274 (by decide) (fun c274 => ?_) (fun c274 => ?_)
    · refine R_iconst dX1_plan_281 ?_
      refine R_iret rfl dX1_plan_282 ?_
      first
      | (rw [if_pos (by omega)] at hb
         subst hb
         first
         | exact hQ
         | (exfalso; rw [e32] at c274; omega))
      | (rw [if_neg (by omega)] at hb
         subst hb
         first
         | exact hQ
         | (exfalso; rw [e320] at c274; omega))
    · refine R_iconst dX1_plan_277 ?_
      refine R_goto (tgt := 282) dX1_plan_278 (by decide) ?_
      refine R_iret rfl dX1_plan_282 ?_
      first
      | (rw [if_pos (by omega)] at hb
         subst hb
         first
         | exact hQ
         | (exfalso; rw [e32] at c274; omega))
      | (rw [if_neg (by omega)] at hb
         subst hb
         first
         | exact hQ
         | (exfalso; rw [e320] at c274; omega))

set_option maxHeartbeats 4000000 in
set_option maxRecDepth 100000 in
theorem c_X1_plan {E : Ev} {d : Nat} {τ ζ : Sf} {Q : Option Value → Sf → Sf → Prop} {lo hi t : Int} (hI : InvM τ) (hrg : (-2147483648 ≤ lo ∧ lo < 2147483648) ∧ (-2147483648 ≤ hi ∧ hi < 2147483648) ∧ (-2147483648 ≤ t ∧ t < 2147483648)) (hB : (lo < 0 ∨ 720 < lo ∨ hi < lo ∨ 720 < hi ∨ t < 1 ∨ 3 < t) → Q (some (.int (zI (-102)))) τ ζ) (hS : ¬ (lo < 0 ∨ 720 < lo ∨ hi < lo ∨ 720 < hi ∨ t < 1 ∨ 3 < t) → ∀ g P H : Int → Int, plM τ lo hi t = some g → (∀ q, 0 ≤ q → q < τ 20 0 → P q = g q) → (∀ q, -1 ≤ P q ∧ P q ≤ 3) → (∀ w, 0 ≤ w → w < 12 → H w = hsum (τ 8) P 0 (τ 20 0) w) → Q (some (.int (zI 1))) (up (stM τ P H) 32 0 1) ζ) (hF : ¬ (lo < 0 ∨ 720 < lo ∨ hi < lo ∨ 720 < hi ∨ t < 1 ∨ 3 < t) → plM τ lo hi t = none → ∀ P : Int → Int, (∀ q, -1 ≤ P q ∧ P q ≤ 3) → Q (some (.int (zI 0))) (up (stM τ P (H00 τ)) 32 0 0) ζ) : C E GM kX1_plan (d + 3) [.ref (eAd E 0), .int (zI lo), .int (zI hi), .int (zI t)] τ ζ Q := by
  refine C_of (by decide) rfl rfl ?_
  show R E GM kX1_plan (d + 3) 0 [some (.ref (eAd E 0)), some (.int (zI lo)), some (.int (zI hi)), some (.int (zI t)), none] [] τ ζ Q
  obtain ⟨hn, hm, hmk, hys, hpu, hcu, hpl, hwe, hpr, hmi, hwo, hco, hch, hhp⟩ := id hI
  refine R_iload_n dX1_plan_0 rfl ?_
  refine R_iconst dX1_plan_1 ?_
  refine R_sipush dX1_plan_2 (by decide) ?_
  refine R_callS3 (k2 := kX1_in) dX1_plan_5 rfl gX1_plan_X1_in kkX1_in (Nat.le_of_ble_eq_true rfl) (c_X1_in (by omega) (fun b5 => ?_) (fun b5 => ?_))
  · show R _ _ _ _ 8 _ [_] _ _ _
    refine R_if_eq (tgt := 31) (by decide) dX1_plan_8 (by decide) (fun h => absurd h (by decide)) (fun _ => ?_)
    refine R_iload_n dX1_plan_11 rfl ?_
    refine R_iload_n dX1_plan_12 rfl ?_
    refine R_sipush dX1_plan_13 (by decide) ?_
    refine R_callS3 (k2 := kX1_in) dX1_plan_16 rfl gX1_plan_X1_in kkX1_in (Nat.le_of_ble_eq_true rfl) (c_X1_in (by omega) (fun b16 => ?_) (fun b16 => ?_))
    · show R _ _ _ _ 19 _ [_] _ _ _
      refine R_if_eq (tgt := 31) (by decide) dX1_plan_19 (by decide) (fun h => absurd h (by decide)) (fun _ => ?_)
      refine R_iload_n dX1_plan_22 rfl ?_
      refine R_iconst dX1_plan_23 ?_
      refine R_iconst dX1_plan_24 ?_
      refine R_callS3 (k2 := kX1_in) dX1_plan_25 rfl gX1_plan_X1_in kkX1_in (Nat.le_of_ble_eq_true rfl) (c_X1_in (by omega) (fun b25 => ?_) (fun b25 => ?_))
      · show R _ _ _ _ 28 _ [_] _ _ _
        refine R_if_ne (tgt := 34) (by decide) dX1_plan_28 (by decide) (fun _ => ?_) (fun h => absurd h (by decide))
        have loop : ∀ (N : Nat) (w : Int) (τ' : Sf), (12 - w).toNat = N → 0 ≤ w → w ≤ 12 → fil τ' 11 w 12 0 = fil τ 11 0 12 0 → R E GM kX1_plan (d + 3) 37 [some (.ref (eAd E 0)), some (.int (zI lo)), some (.int (zI hi)), some (.int (zI t)), some (.int (zI w))] [] τ' ζ Q := by
          refine st_ind (fun N ih => ?_)
          intro w τ' hN hw hw2 hf
          refine R_iload dX1_plan_37 rfl ?_
          refine R_bipush dX1_plan_39 (by decide) ?_
          refine R_icmp_ge (tgt := 58) (by omega) dX1_plan_41 (by decide) (fun c41 => ?_) (fun c41 => ?_)
          · refine R_iconst dX1_plan_58 ?_
            refine R_istore dX1_plan_59 rfl rfl ?_
            refine R_aload_n dX1_plan_61 rfl ?_
            refine R_getR fX1_plan_48 dX1_plan_62 ?_
            refine R_iconst dX1_plan_65 ?_
            refine R_iconst dX1_plan_66 ?_
            refine R_iast (q := 9) GMok rfl rfl (by omega) rfl dX1_plan_67 ?_
            rw [fil_ge (by omega)] at hf
            rw [hf, fil_11, stM_9]
            have hnb : ¬ (lo < 0 ∨ 720 < lo ∨ hi < lo ∨ 720 < hi ∨ t < 1 ∨ 3 < t) := by omega
            refine plan_from (lo := lo) (hi := hi) (t := t) hI (by omega) (by omega) (by omega) ((τ 20 0).toNat - 1) 0 (H00 τ) (upf (τ 9) 0 (-1)) (by omega) (by omega) (by omega) (upf_at _ _ _) (upf_bd hch (by omega)) (fun w g1 g2 => by unfold H00; rw [if_pos ⟨g1, g2⟩]; omega) (fun g P' H' a1 a2 a3 a4 a5 => ?_) (fun a1 P' a2 a3 => ?_)
            · refine plan_end (b := 1) hI (by omega) (by rw [if_pos rfl]) (hS hnb g P' H' ?_ a3 a4 (fun w g1 g2 => ?_))
              · unfold plM
                rw [show (τ 20 0).toNat - 1 + 1 = (τ 20 0).toNat by omega] at a1
                exact a1
              · rw [a5 w g1 g2]
                unfold H00
                rw [if_pos ⟨g1, g2⟩]
                omega
            · have e20 : stM τ P' (H00 τ) 20 0 = τ 20 0 := rfl
              refine R_iload dX1_plan_68 rfl ?_
              refine R_if_lt (tgt := 252) (by omega) dX1_plan_70 (by decide) (fun c70 => ?_) (fun c70 => absurd c70 (by omega))
              refine plan_end (b := 0) hI (by omega) (by rw [if_neg (by omega)]) (hF hnb ?_ P' a3)
              unfold plM
              rw [show (τ 20 0).toNat - 1 + 1 = (τ 20 0).toNat by omega] at a1
              exact a1
          · refine R_aload_n dX1_plan_44 rfl ?_
            refine R_getR fX1_plan_54 dX1_plan_45 ?_
            refine R_iload dX1_plan_48 rfl ?_
            refine R_iconst dX1_plan_50 ?_
            refine R_iast (q := 11) GMok rfl rfl (by omega) rfl dX1_plan_51 ?_
            refine R_iinc dX1_plan_52 rfl rfl rfl ?_
            refine R_goto (tgt := 37) dX1_plan_55 (by decide) ?_
            exact ih _ (by omega) (w + 1) _ rfl (by omega) (by omega) (by rw [fil_lt (by omega)]; exact hf)
        refine R_iconst dX1_plan_34 ?_
        refine R_istore dX1_plan_35 rfl rfl ?_
        exact loop _ 0 τ rfl (by omega) (by omega) rfl
      · show R _ _ _ _ 28 _ [_] _ _ _
        refine R_if_ne (tgt := 34) (by decide) dX1_plan_28 (by decide) (fun h => absurd h (by decide)) (fun _ => ?_)
        refine R_bipush dX1_plan_31 (by decide) ?_
        refine R_iret rfl dX1_plan_33 ?_
        exact hB (by omega)
    · show R _ _ _ _ 19 _ [_] _ _ _
      refine R_if_eq (tgt := 31) (by decide) dX1_plan_19 (by decide) (fun _ => ?_) (fun h => absurd h (by decide))
      refine R_bipush dX1_plan_31 (by decide) ?_
      refine R_iret rfl dX1_plan_33 ?_
      exact hB (by omega)
  · show R _ _ _ _ 8 _ [_] _ _ _
    refine R_if_eq (tgt := 31) (by decide) dX1_plan_8 (by decide) (fun _ => ?_) (fun h => absurd h (by decide))
    refine R_bipush dX1_plan_31 (by decide) ?_
    refine R_iret rfl dX1_plan_33 ?_
    exact hB (by omega)

set_option maxHeartbeats 4000000 in
set_option maxRecDepth 100000 in
theorem c_X1_note {E : Ev} {d : Nat} {τ ζ : Sf} {Q : Option Value → Sf → Sf → Prop} {r w p k : Int} (hI : InvM τ) (hr : 0 ≤ r ∧ r < 3) (hw : 0 ≤ w ∧ w ≤ 5) (hp : 0 ≤ p ∧ p < τ 20 0) (hk : 0 ≤ k ∧ k ≤ 100) (h37 : 0 ≤ ζ 37 0 ∧ ζ 37 0 ≤ 100) (h38 : 0 ≤ ζ 38 0 ∧ ζ 38 0 ≤ 100) (h39 : ζ 39 0 = 0 ∨ ζ 39 0 = 1) (h40 : ζ 40 0 = 0 ∨ ζ 40 0 = 1) (hQ : ∀ ζ' : Sf, ζ' 37 0 = min (plc (scM τ r w) (τ 20 0) p) (ζ 37 0) → ζ' 38 0 = max (plc (scM τ r w) (τ 20 0) p) (ζ 38 0) → ζ' 39 0 = (if ζ 39 0 = 1 ∨ psb (scM τ r w) (τ 20 0) k p = 1 then 1 else 0) → ζ' 40 0 = (if ζ 40 0 = 1 ∨ psb (scM τ r w) (τ 20 0) k p = 0 then 1 else 0) → Q none τ ζ') : C E GM kX1_note (d + 6) [.ref (eAd E 0), .int (zI r), .int (zI w), .int (zI p), .int (zI k)] τ ζ Q := by
  refine C_of (by decide) rfl rfl ?_
  show R E GM kX1_note (d + 6) 0 [some (.ref (eAd E 0)), some (.int (zI r)), some (.int (zI w)), some (.int (zI p)), some (.int (zI k)), none, none] [] τ ζ Q
  obtain ⟨hn, hm, hmk, hys, hpu, hcu, hpl, hwe, hpr, hmi, hwo, hco, hch, hhp⟩ := id hI
  have hpb := plc_bd (f := scM τ r w) (n := τ 20 0) (p := p) (by omega)
  refine R_aload_n dX1_note_0 rfl ?_
  refine R_iload_n dX1_note_1 rfl ?_
  refine R_iload_n dX1_note_2 rfl ?_
  refine R_iload_n dX1_note_3 rfl ?_
  refine R_callV3 (k2 := kX1_placeOf) dX1_note_4 rfl gX1_note_X1_placeOf kkX1_placeOf rfl rfl (Nat.le_of_ble_eq_true rfl) (c_X1_placeOf hI (by omega) (by omega) (by omega) (fun r4 ζ4 h4 hK4 => ?_))
  subst h4
  show R _ _ _ _ 7 _ [_] _ _ _
  refine R_istore dX1_note_7 rfl rfl ?_
  have e37 := congrFun (hK4 37 (by omega)) 0
  have e38 := congrFun (hK4 38 (by omega)) 0
  have e39 := congrFun (hK4 39 (by omega)) 0
  have e40 := congrFun (hK4 40 (by omega)) 0
  have step2 : ∀ ζ5 : Sf, ζ5 37 0 = min (plc (scM τ r w) (τ 20 0) p) (ζ 37 0) → ζ5 38 0 = max (plc (scM τ r w) (τ 20 0) p) (ζ 38 0) → ζ5 39 0 = ζ 39 0 → ζ5 40 0 = ζ 40 0 → R E GM kX1_note (d + 6) 53 [some (.ref (eAd E 0)), some (.int (zI r)), some (.int (zI w)), some (.int (zI p)), some (.int (zI k)), some (.int (zI ((plc (scM τ r w) (τ 20 0) p)))), none] [] τ ζ5 Q := by
    intro ζ5 f37 f38 f39 f40
    refine R_aload_n dX1_note_53 rfl ?_
    refine R_iload_n dX1_note_54 rfl ?_
    refine R_iload_n dX1_note_55 rfl ?_
    refine R_iload_n dX1_note_56 rfl ?_
    refine R_iload dX1_note_57 rfl ?_
    refine R_callV4 (k2 := kX1_passes) dX1_note_59 rfl gX1_note_X1_passes kkX1_passes rfl rfl (Nat.le_of_ble_eq_true rfl) (c_X1_passes hI (by omega) (by omega) (by omega) (by omega) (fun ζ59 b59 hK59 => ?_) (fun ζ59 b59 hK59 => ?_))
    · show R _ _ _ _ 62 _ [_] _ _ _
      refine R_istore dX1_note_62 rfl rfl ?_
      have g37 := congrFun (hK59 37 (by omega)) 0
      have g38 := congrFun (hK59 38 (by omega)) 0
      have g39 := congrFun (hK59 39 (by omega)) 0
      have g40 := congrFun (hK59 40 (by omega)) 0
      refine R_aload_n dX1_note_64 rfl ?_
      refine R_aload_n dX1_note_65 rfl ?_
      refine R_getIs 39 fX1_note_134 rfl rfl dX1_note_66 ?_
      refine R_if_ne (tgt := 77) (by omega) dX1_note_69 (by decide) (fun c69 => ?_) (fun c69 => ?_)
      · refine R_iconst dX1_note_77 ?_
        refine R_goto (tgt := 82) dX1_note_78 (by decide) ?_
        refine R_putZs 39 fX1_note_134 (by decide) rfl rfl rfl (by decide +kernel) dX1_note_82 ?_
        refine R_aload_n dX1_note_85 rfl ?_
        have u40 : ∀ z v : Int, up ζ59 39 z v 40 0 = ζ59 40 0 := fun z v => by rw [up_ne (by decide)]
        refine R_aload_n dX1_note_86 rfl ?_
        refine R_getIs 40 fX1_note_137 rfl rfl dX1_note_87 ?_
        refine R_if_ne (tgt := 98) (by rw [u40]; omega) dX1_note_90 (by decide) (fun c90 => ?_) (fun c90 => ?_)
        · refine R_iconst dX1_note_98 ?_
          refine R_goto (tgt := 103) dX1_note_99 (by decide) ?_
          refine R_putZs 40 fX1_note_137 (by decide) rfl rfl rfl (by decide +kernel) dX1_note_103 ?_
          refine R_vret rfl dX1_note_106 ?_
          refine hQ _ ?_ ?_ ?_ ?_
          · rw [up_ne (by decide), up_ne (by decide)]
            omega
          · rw [up_ne (by decide), up_ne (by decide)]
            omega
          · rw [up_ne (by decide), up_at, if_pos rfl]
            first
            | rw [if_pos (by omega)]
            | rw [if_neg (by omega)]
          · rw [up_at, if_pos rfl]
            try rw [u40] at c90
            first
            | rw [if_pos (by omega)]
            | rw [if_neg (by omega)]
        · refine R_iload dX1_note_93 rfl ?_
          refine R_if_ne (tgt := 102) (by decide) dX1_note_95 (by decide) (fun _ => ?_) (fun h => absurd h (by decide))
          refine R_iconst dX1_note_102 ?_
          refine R_putZs 40 fX1_note_137 (by decide) rfl rfl rfl (by decide +kernel) dX1_note_103 ?_
          refine R_vret rfl dX1_note_106 ?_
          refine hQ _ ?_ ?_ ?_ ?_
          · rw [up_ne (by decide), up_ne (by decide)]
            omega
          · rw [up_ne (by decide), up_ne (by decide)]
            omega
          · rw [up_ne (by decide), up_at, if_pos rfl]
            first
            | rw [if_pos (by omega)]
            | rw [if_neg (by omega)]
          · rw [up_at, if_pos rfl]
            try rw [u40] at c90
            first
            | rw [if_pos (by omega)]
            | rw [if_neg (by omega)]
      · refine R_iload dX1_note_72 rfl ?_
        refine R_if_eq (tgt := 81) (by decide) dX1_note_74 (by decide) (fun h => absurd h (by decide)) (fun _ => ?_)
        refine R_iconst dX1_note_77 ?_
        refine R_goto (tgt := 82) dX1_note_78 (by decide) ?_
        refine R_putZs 39 fX1_note_134 (by decide) rfl rfl rfl (by decide +kernel) dX1_note_82 ?_
        refine R_aload_n dX1_note_85 rfl ?_
        have u40 : ∀ z v : Int, up ζ59 39 z v 40 0 = ζ59 40 0 := fun z v => by rw [up_ne (by decide)]
        refine R_aload_n dX1_note_86 rfl ?_
        refine R_getIs 40 fX1_note_137 rfl rfl dX1_note_87 ?_
        refine R_if_ne (tgt := 98) (by rw [u40]; omega) dX1_note_90 (by decide) (fun c90 => ?_) (fun c90 => ?_)
        · refine R_iconst dX1_note_98 ?_
          refine R_goto (tgt := 103) dX1_note_99 (by decide) ?_
          refine R_putZs 40 fX1_note_137 (by decide) rfl rfl rfl (by decide +kernel) dX1_note_103 ?_
          refine R_vret rfl dX1_note_106 ?_
          refine hQ _ ?_ ?_ ?_ ?_
          · rw [up_ne (by decide), up_ne (by decide)]
            omega
          · rw [up_ne (by decide), up_ne (by decide)]
            omega
          · rw [up_ne (by decide), up_at, if_pos rfl]
            first
            | rw [if_pos (by omega)]
            | rw [if_neg (by omega)]
          · rw [up_at, if_pos rfl]
            try rw [u40] at c90
            first
            | rw [if_pos (by omega)]
            | rw [if_neg (by omega)]
        · refine R_iload dX1_note_93 rfl ?_
          refine R_if_ne (tgt := 102) (by decide) dX1_note_95 (by decide) (fun _ => ?_) (fun h => absurd h (by decide))
          refine R_iconst dX1_note_102 ?_
          refine R_putZs 40 fX1_note_137 (by decide) rfl rfl rfl (by decide +kernel) dX1_note_103 ?_
          refine R_vret rfl dX1_note_106 ?_
          refine hQ _ ?_ ?_ ?_ ?_
          · rw [up_ne (by decide), up_ne (by decide)]
            omega
          · rw [up_ne (by decide), up_ne (by decide)]
            omega
          · rw [up_ne (by decide), up_at, if_pos rfl]
            first
            | rw [if_pos (by omega)]
            | rw [if_neg (by omega)]
          · rw [up_at, if_pos rfl]
            try rw [u40] at c90
            first
            | rw [if_pos (by omega)]
            | rw [if_neg (by omega)]
    · show R _ _ _ _ 62 _ [_] _ _ _
      refine R_istore dX1_note_62 rfl rfl ?_
      have g37 := congrFun (hK59 37 (by omega)) 0
      have g38 := congrFun (hK59 38 (by omega)) 0
      have g39 := congrFun (hK59 39 (by omega)) 0
      have g40 := congrFun (hK59 40 (by omega)) 0
      refine R_aload_n dX1_note_64 rfl ?_
      refine R_aload_n dX1_note_65 rfl ?_
      refine R_getIs 39 fX1_note_134 rfl rfl dX1_note_66 ?_
      refine R_if_ne (tgt := 77) (by omega) dX1_note_69 (by decide) (fun c69 => ?_) (fun c69 => ?_)
      · refine R_iconst dX1_note_77 ?_
        refine R_goto (tgt := 82) dX1_note_78 (by decide) ?_
        refine R_putZs 39 fX1_note_134 (by decide) rfl rfl rfl (by decide +kernel) dX1_note_82 ?_
        refine R_aload_n dX1_note_85 rfl ?_
        have u40 : ∀ z v : Int, up ζ59 39 z v 40 0 = ζ59 40 0 := fun z v => by rw [up_ne (by decide)]
        refine R_aload_n dX1_note_86 rfl ?_
        refine R_getIs 40 fX1_note_137 rfl rfl dX1_note_87 ?_
        refine R_if_ne (tgt := 98) (by rw [u40]; omega) dX1_note_90 (by decide) (fun c90 => ?_) (fun c90 => ?_)
        · refine R_iconst dX1_note_98 ?_
          refine R_goto (tgt := 103) dX1_note_99 (by decide) ?_
          refine R_putZs 40 fX1_note_137 (by decide) rfl rfl rfl (by decide +kernel) dX1_note_103 ?_
          refine R_vret rfl dX1_note_106 ?_
          refine hQ _ ?_ ?_ ?_ ?_
          · rw [up_ne (by decide), up_ne (by decide)]
            omega
          · rw [up_ne (by decide), up_ne (by decide)]
            omega
          · rw [up_ne (by decide), up_at, if_pos rfl]
            first
            | rw [if_pos (by omega)]
            | rw [if_neg (by omega)]
          · rw [up_at, if_pos rfl]
            try rw [u40] at c90
            first
            | rw [if_pos (by omega)]
            | rw [if_neg (by omega)]
        · refine R_iload dX1_note_93 rfl ?_
          refine R_if_ne (tgt := 102) (by decide) dX1_note_95 (by decide) (fun h => absurd h (by decide)) (fun _ => ?_)
          refine R_iconst dX1_note_98 ?_
          refine R_goto (tgt := 103) dX1_note_99 (by decide) ?_
          refine R_putZs 40 fX1_note_137 (by decide) rfl rfl rfl (by decide +kernel) dX1_note_103 ?_
          refine R_vret rfl dX1_note_106 ?_
          refine hQ _ ?_ ?_ ?_ ?_
          · rw [up_ne (by decide), up_ne (by decide)]
            omega
          · rw [up_ne (by decide), up_ne (by decide)]
            omega
          · rw [up_ne (by decide), up_at, if_pos rfl]
            first
            | rw [if_pos (by omega)]
            | rw [if_neg (by omega)]
          · rw [up_at, if_pos rfl]
            try rw [u40] at c90
            first
            | rw [if_pos (by omega)]
            | rw [if_neg (by omega)]
      · refine R_iload dX1_note_72 rfl ?_
        refine R_if_eq (tgt := 81) (by decide) dX1_note_74 (by decide) (fun _ => ?_) (fun h => absurd h (by decide))
        refine R_iconst dX1_note_81 ?_
        refine R_putZs 39 fX1_note_134 (by decide) rfl rfl rfl (by decide +kernel) dX1_note_82 ?_
        refine R_aload_n dX1_note_85 rfl ?_
        have u40 : ∀ z v : Int, up ζ59 39 z v 40 0 = ζ59 40 0 := fun z v => by rw [up_ne (by decide)]
        refine R_aload_n dX1_note_86 rfl ?_
        refine R_getIs 40 fX1_note_137 rfl rfl dX1_note_87 ?_
        refine R_if_ne (tgt := 98) (by rw [u40]; omega) dX1_note_90 (by decide) (fun c90 => ?_) (fun c90 => ?_)
        · refine R_iconst dX1_note_98 ?_
          refine R_goto (tgt := 103) dX1_note_99 (by decide) ?_
          refine R_putZs 40 fX1_note_137 (by decide) rfl rfl rfl (by decide +kernel) dX1_note_103 ?_
          refine R_vret rfl dX1_note_106 ?_
          refine hQ _ ?_ ?_ ?_ ?_
          · rw [up_ne (by decide), up_ne (by decide)]
            omega
          · rw [up_ne (by decide), up_ne (by decide)]
            omega
          · rw [up_ne (by decide), up_at, if_pos rfl]
            first
            | rw [if_pos (by omega)]
            | rw [if_neg (by omega)]
          · rw [up_at, if_pos rfl]
            try rw [u40] at c90
            first
            | rw [if_pos (by omega)]
            | rw [if_neg (by omega)]
        · refine R_iload dX1_note_93 rfl ?_
          refine R_if_ne (tgt := 102) (by decide) dX1_note_95 (by decide) (fun h => absurd h (by decide)) (fun _ => ?_)
          refine R_iconst dX1_note_98 ?_
          refine R_goto (tgt := 103) dX1_note_99 (by decide) ?_
          refine R_putZs 40 fX1_note_137 (by decide) rfl rfl rfl (by decide +kernel) dX1_note_103 ?_
          refine R_vret rfl dX1_note_106 ?_
          refine hQ _ ?_ ?_ ?_ ?_
          · rw [up_ne (by decide), up_ne (by decide)]
            omega
          · rw [up_ne (by decide), up_ne (by decide)]
            omega
          · rw [up_ne (by decide), up_at, if_pos rfl]
            first
            | rw [if_pos (by omega)]
            | rw [if_neg (by omega)]
          · rw [up_at, if_pos rfl]
            try rw [u40] at c90
            first
            | rw [if_pos (by omega)]
            | rw [if_neg (by omega)]
  refine R_aload_n dX1_note_9 rfl ?_
  refine R_iload dX1_note_10 rfl ?_
  refine R_aload_n dX1_note_12 rfl ?_
  refine R_getIs 37 fX1_note_128 rfl rfl dX1_note_13 ?_
  refine R_icmp_ge (tgt := 24) (by omega) dX1_note_16 (by decide) (fun c16 => ?_) (fun c16 => ?_)
  · refine R_aload_n dX1_note_24 rfl ?_
    refine R_getIs 37 fX1_note_128 rfl rfl dX1_note_25 ?_
    refine R_putIs 37 fX1_note_128 rfl rfl rfl (by decide +kernel) dX1_note_28 ?_
    refine R_aload_n dX1_note_31 rfl ?_
    have u38 : ∀ z v : Int, up ζ4 37 z v 38 0 = ζ4 38 0 := fun z v => by rw [up_ne (by decide)]
    refine R_iload dX1_note_32 rfl ?_
    refine R_aload_n dX1_note_34 rfl ?_
    refine R_getIs 38 fX1_note_131 rfl rfl dX1_note_35 ?_
    refine R_icmp_le (tgt := 46) (by rw [u38]; omega) dX1_note_38 (by decide) (fun c38 => ?_) (fun c38 => ?_)
    · refine R_aload_n dX1_note_46 rfl ?_
      refine R_getIs 38 fX1_note_131 rfl rfl dX1_note_47 ?_
      refine R_putIs 38 fX1_note_131 rfl rfl rfl (by decide +kernel) dX1_note_50 ?_
      try rw [u38] at c38
      refine step2 _ ?_ ?_ ?_ ?_
      · rw [up_ne (by decide), up_at, if_pos rfl]
        omega
      · rw [up_at, if_pos rfl]
        first
        | omega
        | (rw [up_ne (by decide)]
           omega)
      · rw [up_ne (by decide), up_ne (by decide)]
        exact e39
      · rw [up_ne (by decide), up_ne (by decide)]
        exact e40
    · refine R_iload dX1_note_41 rfl ?_
      refine R_goto (tgt := 50) dX1_note_43 (by decide) ?_
      refine R_putIs 38 fX1_note_131 rfl rfl rfl (by decide +kernel) dX1_note_50 ?_
      try rw [u38] at c38
      refine step2 _ ?_ ?_ ?_ ?_
      · rw [up_ne (by decide), up_at, if_pos rfl]
        omega
      · rw [up_at, if_pos rfl]
        first
        | omega
        | (rw [up_ne (by decide)]
           omega)
      · rw [up_ne (by decide), up_ne (by decide)]
        exact e39
      · rw [up_ne (by decide), up_ne (by decide)]
        exact e40
  · refine R_iload dX1_note_19 rfl ?_
    refine R_goto (tgt := 28) dX1_note_21 (by decide) ?_
    refine R_putIs 37 fX1_note_128 rfl rfl rfl (by decide +kernel) dX1_note_28 ?_
    refine R_aload_n dX1_note_31 rfl ?_
    have u38 : ∀ z v : Int, up ζ4 37 z v 38 0 = ζ4 38 0 := fun z v => by rw [up_ne (by decide)]
    refine R_iload dX1_note_32 rfl ?_
    refine R_aload_n dX1_note_34 rfl ?_
    refine R_getIs 38 fX1_note_131 rfl rfl dX1_note_35 ?_
    refine R_icmp_le (tgt := 46) (by rw [u38]; omega) dX1_note_38 (by decide) (fun c38 => ?_) (fun c38 => ?_)
    · refine R_aload_n dX1_note_46 rfl ?_
      refine R_getIs 38 fX1_note_131 rfl rfl dX1_note_47 ?_
      refine R_putIs 38 fX1_note_131 rfl rfl rfl (by decide +kernel) dX1_note_50 ?_
      try rw [u38] at c38
      refine step2 _ ?_ ?_ ?_ ?_
      · rw [up_ne (by decide), up_at, if_pos rfl]
        omega
      · rw [up_at, if_pos rfl]
        first
        | omega
        | (rw [up_ne (by decide)]
           omega)
      · rw [up_ne (by decide), up_ne (by decide)]
        exact e39
      · rw [up_ne (by decide), up_ne (by decide)]
        exact e40
    · refine R_iload dX1_note_41 rfl ?_
      refine R_goto (tgt := 50) dX1_note_43 (by decide) ?_
      refine R_putIs 38 fX1_note_131 rfl rfl rfl (by decide +kernel) dX1_note_50 ?_
      try rw [u38] at c38
      refine step2 _ ?_ ?_ ?_ ?_
      · rw [up_ne (by decide), up_at, if_pos rfl]
        omega
      · rw [up_at, if_pos rfl]
        first
        | omega
        | (rw [up_ne (by decide)]
           omega)
      · rw [up_ne (by decide), up_ne (by decide)]
        exact e39
      · rw [up_ne (by decide), up_ne (by decide)]
        exact e40

theorem inv_m1 {τ : Sf} {z v : Int} (hI : InvM τ) (hv : 1 ≤ v ∧ v ≤ 100) : InvM (up τ 1 z v) := by
  obtain ⟨hn, hm, hmk, hys, hpu, hcu, hpl, hwe, hpr, hmi, hwo, hco, hch, hhp⟩ := id hI
  refine ⟨hn, hm, fun i => ?_, hys, hpu, hcu, hpl, hwe, hpr, hmi, hwo, hco, hch, hhp⟩
  rw [up_at]
  have := hmk i
  split <;> omega
theorem inv_m2 {τ : Sf} {z v : Int} (hI : InvM τ) (hv : v = 0 ∨ v = 1) : InvM (up τ 2 z v) := by
  obtain ⟨hn, hm, hmk, hys, hpu, hcu, hpl, hwe, hpr, hmi, hwo, hco, hch, hhp⟩ := id hI
  refine ⟨hn, hm, hmk, fun i => ?_, hpu, hcu, hpl, hwe, hpr, hmi, hwo, hco, hch, hhp⟩
  rw [up_at]
  have := hys i
  split <;> omega
theorem scM_1 (τ : Sf) (r w z v : Int) : scM (up τ 1 z v) r w = scG (upf (τ 1) z v) (τ 2) (τ 3) (τ 25 0) (τ 26 0) (τ 20 0) (τ 21 0) r w := rfl
theorem scM_2 (τ : Sf) (r w z v : Int) : scM (up τ 2 z v) r w = scG (τ 1) (upf (τ 2) z v) (τ 3) (τ 25 0) (τ 26 0) (τ 20 0) (τ 21 0) r w := rfl
theorem mv_plc {τ : Sf} {r w j p v v' : Int} (hI : InvM τ) (hw : 0 ≤ w ∧ w ≤ 5) (hp : 0 ≤ p ∧ p < τ 20 0) (hv : 1 ≤ v ∧ v ≤ v' ∧ v' ≤ 100) : plc (scM (up τ 1 ((r * 7 + j) * 10 + p) v') r w) (τ 20 0) p ≤ plc (scM (up τ 1 ((r * 7 + j) * 10 + p) v) r w) (τ 20 0) p := by
  obtain ⟨hn, hm, hmk, hys, hpu, hcu, hpl, hwe, hpr, hmi, hwo, hco, hch, hhp⟩ := id hI
  rw [scM_1, scM_1]
  exact plG_mark hmk hv (by omega) (by omega) hp (by omega) hw
theorem mv_psb {τ : Sf} {r w j p v v' k : Int} (hI : InvM τ) (hw : 0 ≤ w ∧ w ≤ 5) (hp : 0 ≤ p ∧ p < τ 20 0) (hv : 1 ≤ v ∧ v ≤ v' ∧ v' ≤ 100) : psb (scM (up τ 1 ((r * 7 + j) * 10 + p) v) r w) (τ 20 0) k p ≤ psb (scM (up τ 1 ((r * 7 + j) * 10 + p) v') r w) (τ 20 0) k p := by
  refine psb_mono ?_ (mv_plc hI hw hp hv)
  obtain ⟨hn, hm, hmk, hys, hpu, hcu, hpl, hwe, hpr, hmi, hwo, hco, hch, hhp⟩ := id hI
  rw [scM_1, scM_1]
  exact scG_none hmk hys (by omega) (by omega) (by omega) (by omega) (by omega) hpl hw
theorem my_plc {τ : Sf} {r w j p : Int} (hI : InvM τ) (hw : 0 ≤ w ∧ w ≤ 5) (hp : 0 ≤ p ∧ p < τ 20 0) : plc (scM (up τ 2 ((r * 7 + j) * 10 + p) 1) r w) (τ 20 0) p ≤ plc (scM (up τ 2 ((r * 7 + j) * 10 + p) 0) r w) (τ 20 0) p := by
  obtain ⟨hn, hm, hmk, hys, hpu, hcu, hpl, hwe, hpr, hmi, hwo, hco, hch, hhp⟩ := id hI
  rw [scM_2, scM_2]
  exact plG_yes hmk (by omega) (by omega) (by omega) hp (by omega) hw
theorem my_psb {τ : Sf} {r w j p k : Int} (hI : InvM τ) (hw : 0 ≤ w ∧ w ≤ 5) (hp : 0 ≤ p ∧ p < τ 20 0) : psb (scM (up τ 2 ((r * 7 + j) * 10 + p) 0) r w) (τ 20 0) k p ≤ psb (scM (up τ 2 ((r * 7 + j) * 10 + p) 1) r w) (τ 20 0) k p := by
  refine psb_mono ?_ (my_plc hI hw hp)
  obtain ⟨hn, hm, hmk, hys, hpu, hcu, hpl, hwe, hpr, hmi, hwo, hco, hch, hhp⟩ := id hI
  rw [scM_2, scM_2]
  exact scG_noneY hmk hys (Or.inl rfl) (Or.inr rfl) (by omega) (by omega) (by omega) hpl hw
theorem psb_le (f : Int → Int) (n k p : Int) : 0 ≤ psb f n k p ∧ psb f n k p ≤ 1 := by
  have := psb_01 f n k p
  omega
set_option maxHeartbeats 4000000 in
set_option maxRecDepth 100000 in
theorem c_X1_seek {E : Ev} {d : Nat} {τ ζ : Sf} {Q : Option Value → Sf → Sf → Prop} {r w j p k : Int} (hI : InvM τ) (hr : 0 ≤ r ∧ r < 3) (hw : 0 ≤ w ∧ w ≤ 5) (hj : 0 ≤ j ∧ j < τ 21 0) (hp : 0 ≤ p ∧ p < τ 20 0) (hk : 0 ≤ k ∧ k ≤ 100) (hQ : ∀ ζ' : Sf, ζ' 37 0 = plc (scM (md τ r w j p 1) r w) (τ 20 0) p → ζ' 38 0 = plc (scM (md τ r w j p 0) r w) (τ 20 0) p → ζ' 39 0 = psb (scM (md τ r w j p 1) r w) (τ 20 0) k p → ζ' 40 0 = 1 - psb (scM (md τ r w j p 0) r w) (τ 20 0) k p → Q none τ ζ') : C E GM kX1_seek (d + 7) [.ref (eAd E 0), .int (zI r), .int (zI w), .int (zI j), .int (zI p), .int (zI k)] τ ζ Q := by
  refine C_of (by decide) rfl rfl ?_
  show R E GM kX1_seek (d + 7) 0 [some (.ref (eAd E 0)), some (.int (zI r)), some (.int (zI w)), some (.int (zI j)), some (.int (zI p)), some (.int (zI k)), none, none, none] [] τ ζ Q
  obtain ⟨hn, hm, hmk, hys, hpu, hcu, hpl, hwe, hpr, hmi, hwo, hco, hch, hhp⟩ := id hI
  refine R_aload_n dX1_seek_0 rfl ?_
  refine R_bipush dX1_seek_1 (by decide) ?_
  refine R_putIs 37 fX1_seek_128 rfl rfl rfl (by decide +kernel) dX1_seek_3 ?_
  refine R_aload_n dX1_seek_6 rfl ?_
  refine R_iconst dX1_seek_7 ?_
  refine R_putIs 38 fX1_seek_131 rfl rfl rfl (by decide +kernel) dX1_seek_8 ?_
  refine R_aload_n dX1_seek_11 rfl ?_
  refine R_iconst dX1_seek_12 ?_
  refine R_putZs 39 fX1_seek_134 (by decide) rfl rfl rfl (by decide +kernel) dX1_seek_13 ?_
  refine R_aload_n dX1_seek_16 rfl ?_
  refine R_iconst dX1_seek_17 ?_
  refine R_putZs 40 fX1_seek_137 (by decide) rfl rfl rfl (by decide +kernel) dX1_seek_18 ?_
  refine R_bipush dX1_seek_21 (by decide) ?_
  refine R_iload_n dX1_seek_23 rfl ?_
  refine R_imul dX1_seek_24 ?_
  refine R_bipush dX1_seek_25 (by decide) ?_
  refine R_iload_n dX1_seek_27 rfl ?_
  refine R_imul dX1_seek_28 ?_
  refine R_iadd dX1_seek_29 ?_
  refine R_iload dX1_seek_30 rfl ?_
  refine R_iadd dX1_seek_32 ?_
  rw [show 70 * r + 10 * j + p = ((r * 7 + j) * 10 + p) by omega]
  generalize hz : up (up (up (up ζ 37 0 11) 38 0 0) 39 0 0) 40 0 0 = ζ1
  have f37 : ζ1 37 0 = 11 := by rw [← hz]; rfl
  have f38 : ζ1 38 0 = 0 := by rw [← hz]; rfl
  have f39 : ζ1 39 0 = 0 := by rw [← hz]; rfl
  have f40 : ζ1 40 0 = 0 := by rw [← hz]; rfl
  refine R_istore dX1_seek_33 rfl rfl ?_
  refine R_iload_n dX1_seek_35 rfl ?_
  refine R_iconst dX1_seek_36 ?_
  refine R_icmp_ne (tgt := 97) (by omega) dX1_seek_37 (by decide) (fun c37 => ?_) (fun c37 => ?_)
  · refine R_aload_n dX1_seek_97 rfl ?_
    refine R_getR fX1_seek_16 dX1_seek_98 ?_
    refine R_iload dX1_seek_101 rfl ?_
    refine R_iald (q := 1) rfl rfl (by omega) rfl dX1_seek_103 ?_
    refine R_istore dX1_seek_104 rfl rfl ?_
    refine R_iconst dX1_seek_106 ?_
    have hw3 : ¬ w = 3 := c37
    refine R_istore dX1_seek_107 rfl rfl ?_
    have loop : ∀ (N : Nat) (v : Int) (τ' ζ' : Sf), (100 - v).toNat = N → 1 ≤ v → v ≤ 100 → τ' = (up τ 1 ((r * 7 + j) * 10 + p) v) → ζ' 37 0 = (plc (scM (up τ 1 ((r * 7 + j) * 10 + p) v) r w) (τ 20 0) p) → ζ' 38 0 = (plc (scM (up τ 1 ((r * 7 + j) * 10 + p) 1) r w) (τ 20 0) p) → ζ' 39 0 = (psb (scM (up τ 1 ((r * 7 + j) * 10 + p) v) r w) (τ 20 0) k p) → ζ' 40 0 = 1 - (psb (scM (up τ 1 ((r * 7 + j) * 10 + p) 1) r w) (τ 20 0) k p) → R E GM kX1_seek (d + 7) 109 [some (.ref (eAd E 0)), some (.int (zI r)), some (.int (zI w)), some (.int (zI j)), some (.int (zI p)), some (.int (zI k)), some (.int (zI (((r * 7 + j) * 10 + p)))), some (.int (zI ((τ 1 ((r * 7 + j) * 10 + p))))), some (.int (zI ((v + 1))))] [] τ' ζ' Q := by
      refine st_ind (fun N ih => ?_)
      intro v τ' ζ' hN hv1 hv2 ht f37 f38 f39 f40
      subst ht
      have hb1 := psb_le (scM (up τ 1 ((r * 7 + j) * 10 + p) 1) r w) (τ 20 0) k p
      have hbv := psb_le (scM (up τ 1 ((r * 7 + j) * 10 + p) v) r w) (τ 20 0) k p
      have hpv := plc_bd (f := scM (up τ 1 ((r * 7 + j) * 10 + p) v) r w) (n := τ 20 0) (p := p) (by omega)
      have hp1 := plc_bd (f := scM (up τ 1 ((r * 7 + j) * 10 + p) 1) r w) (n := τ 20 0) (p := p) (by omega)
      refine R_iload dX1_seek_109 rfl ?_
      refine R_bipush dX1_seek_111 (by decide) ?_
      refine R_icmp_gt (tgt := 141) (by omega) dX1_seek_113 (by decide) (fun c113 => ?_) (fun c113 => ?_)
      · refine R_aload_n dX1_seek_141 rfl ?_
        refine R_getR fX1_seek_16 dX1_seek_142 ?_
        refine R_iload dX1_seek_145 rfl ?_
        refine R_iload dX1_seek_147 rfl ?_
        refine R_iast (q := 1) GMok rfl rfl (by omega) rfl dX1_seek_149 ?_
        refine R_vret rfl dX1_seek_150 ?_
        have hv100 : v = 100 := by omega
        subst hv100
        rw [up_up, up_id rfl]
        have e1 : md τ r w j p 1 = (up τ 1 ((r * 7 + j) * 10 + p) 100) := by
          unfold md
          rw [if_neg hw3]
          rfl
        have e0 : md τ r w j p 0 = (up τ 1 ((r * 7 + j) * 10 + p) 1) := by
          unfold md
          rw [if_neg hw3]
          rfl
        exact hQ ζ' (by rw [e1]; exact f37) (by rw [e0]; exact f38) (by rw [e1]; exact f39) (by rw [e0]; exact f40)
      · refine R_aload_n dX1_seek_116 rfl ?_
        refine R_getR fX1_seek_16 dX1_seek_117 ?_
        refine R_iload dX1_seek_120 rfl ?_
        refine R_iload dX1_seek_122 rfl ?_
        refine R_iast (q := 1) GMok rfl rfl (by omega) rfl dX1_seek_124 ?_
        rw [up_up]
        refine R_aload_n dX1_seek_125 rfl ?_
        refine R_iload_n dX1_seek_126 rfl ?_
        refine R_iload_n dX1_seek_127 rfl ?_
        refine R_iload dX1_seek_128 rfl ?_
        refine R_iload dX1_seek_130 rfl ?_
        refine R_callV4 (k2 := kX1_note) dX1_seek_132 rfl gX1_seek_X1_note kkX1_note rfl rfl (Nat.le_of_ble_eq_true rfl) (c_X1_note (inv_m1 hI (by omega)) (by omega) (by omega) (show 0 ≤ p ∧ p < τ 20 0 by omega) (by omega) (by omega) (by omega) (by omega) (by omega) (fun ζ132 n37_132 n38_132 n39_132 n40_132 => ?_))
        show R _ _ _ _ 135 _ [] _ _ _
        refine R_iinc dX1_seek_135 rfl rfl rfl ?_
        refine R_goto (tgt := 109) dX1_seek_138 (by decide) ?_
        have m1 := mv_plc (r := r) (w := w) (j := j) (p := p) (v := v) (v' := v + 1) hI hw hp (by omega)
        have m2 := mv_plc (r := r) (w := w) (j := j) (p := p) (v := 1) (v' := v + 1) hI hw hp (by omega)
        have m3 := mv_psb (r := r) (w := w) (j := j) (p := p) (v := v) (v' := v + 1) (k := k) hI hw hp (by omega)
        have m4 := mv_psb (r := r) (w := w) (j := j) (p := p) (v := 1) (v' := v + 1) (k := k) hI hw hp (by omega)
        have m5 := psb_le (scM (up τ 1 ((r * 7 + j) * 10 + p) (v + 1)) r w) (τ 20 0) k p
        have n37 : ζ132 37 0 = min (plc (scM (up τ 1 ((r * 7 + j) * 10 + p) (v + 1)) r w) (τ 20 0) p) (ζ' 37 0) := n37_132
        have n38 : ζ132 38 0 = max (plc (scM (up τ 1 ((r * 7 + j) * 10 + p) (v + 1)) r w) (τ 20 0) p) (ζ' 38 0) := n38_132
        have n39 : ζ132 39 0 = (if ζ' 39 0 = 1 ∨ (psb (scM (up τ 1 ((r * 7 + j) * 10 + p) (v + 1)) r w) (τ 20 0) k p) = 1 then 1 else 0) := n39_132
        have n40 : ζ132 40 0 = (if ζ' 40 0 = 1 ∨ (psb (scM (up τ 1 ((r * 7 + j) * 10 + p) (v + 1)) r w) (τ 20 0) k p) = 0 then 1 else 0) := n40_132
        refine ih _ (by omega) (v + 1) _ ζ132 rfl (by omega) (by omega) rfl (by omega) (by omega) ?_ ?_
        · rw [n39]
          split <;> omega
        · rw [n40]
          split <;> omega
    have hp1 := plc_bd (f := scM (up τ 1 ((r * 7 + j) * 10 + p) 1) r w) (n := τ 20 0) (p := p) (by omega)
    have hb1 := psb_le (scM (up τ 1 ((r * 7 + j) * 10 + p) 1) r w) (τ 20 0) k p
    refine R_iload dX1_seek_109 rfl ?_
    refine R_bipush dX1_seek_111 (by decide) ?_
    refine R_icmp_gt (tgt := 141) (by decide) dX1_seek_113 (by decide) (fun h => absurd h (by decide)) (fun _ => ?_)
    refine R_aload_n dX1_seek_116 rfl ?_
    refine R_getR fX1_seek_16 dX1_seek_117 ?_
    refine R_iload dX1_seek_120 rfl ?_
    refine R_iload dX1_seek_122 rfl ?_
    refine R_iast (q := 1) GMok rfl rfl (by omega) rfl dX1_seek_124 ?_
    refine R_aload_n dX1_seek_125 rfl ?_
    refine R_iload_n dX1_seek_126 rfl ?_
    refine R_iload_n dX1_seek_127 rfl ?_
    refine R_iload dX1_seek_128 rfl ?_
    refine R_iload dX1_seek_130 rfl ?_
    refine R_callV4 (k2 := kX1_note) dX1_seek_132 rfl gX1_seek_X1_note kkX1_note rfl rfl (Nat.le_of_ble_eq_true rfl) (c_X1_note (inv_m1 hI (by omega)) (by omega) (by omega) (show 0 ≤ p ∧ p < τ 20 0 by omega) (by omega) (by omega) (by omega) (by omega) (by omega) (fun ζ132 n37_132 n38_132 n39_132 n40_132 => ?_))
    show R _ _ _ _ 135 _ [] _ _ _
    refine R_iinc dX1_seek_135 rfl rfl rfl ?_
    refine R_goto (tgt := 109) dX1_seek_138 (by decide) ?_
    have n37 : ζ132 37 0 = min (plc (scM (up τ 1 ((r * 7 + j) * 10 + p) 1) r w) (τ 20 0) p) (ζ1 37 0) := n37_132
    have n38 : ζ132 38 0 = max (plc (scM (up τ 1 ((r * 7 + j) * 10 + p) 1) r w) (τ 20 0) p) (ζ1 38 0) := n38_132
    have n39 : ζ132 39 0 = (if ζ1 39 0 = 1 ∨ (psb (scM (up τ 1 ((r * 7 + j) * 10 + p) 1) r w) (τ 20 0) k p) = 1 then 1 else 0) := n39_132
    have n40 : ζ132 40 0 = (if ζ1 40 0 = 1 ∨ (psb (scM (up τ 1 ((r * 7 + j) * 10 + p) 1) r w) (τ 20 0) k p) = 0 then 1 else 0) := n40_132
    refine loop _ 1 _ ζ132 rfl (by omega) (by omega) rfl (by omega) (by omega) ?_ ?_
    · rw [n39]
      split <;> omega
    · rw [n40]
      split <;> omega
  · refine R_aload_n dX1_seek_40 rfl ?_
    refine R_getR fX1_seek_20 dX1_seek_41 ?_
    refine R_iload dX1_seek_44 rfl ?_
    refine R_bald (q := 2) rfl rfl rfl (by omega) rfl dX1_seek_46 ?_
    refine R_istore dX1_seek_47 rfl rfl ?_
    refine R_aload_n dX1_seek_49 rfl ?_
    refine R_getR fX1_seek_20 dX1_seek_50 ?_
    refine R_iload dX1_seek_53 rfl ?_
    refine R_iconst dX1_seek_55 ?_
    refine R_bast (q := 2) GMok rfl rfl (by decide) rfl (by omega) rfl dX1_seek_56 ?_
    have hp1 := plc_bd (f := scM (up τ 2 ((r * 7 + j) * 10 + p) 1) r w) (n := τ 20 0) (p := p) (by omega)
    have hb1 := psb_le (scM (up τ 2 ((r * 7 + j) * 10 + p) 1) r w) (τ 20 0) k p
    have hp0 := plc_bd (f := scM (up τ 2 ((r * 7 + j) * 10 + p) 0) r w) (n := τ 20 0) (p := p) (by omega)
    have hb0 := psb_le (scM (up τ 2 ((r * 7 + j) * 10 + p) 0) r w) (τ 20 0) k p
    have m1 := my_plc (r := r) (w := w) (j := j) (p := p) hI hw hp
    have m2 := my_psb (r := r) (w := w) (j := j) (p := p) (k := k) hI hw hp
    refine R_aload_n dX1_seek_57 rfl ?_
    refine R_iload_n dX1_seek_58 rfl ?_
    refine R_iload_n dX1_seek_59 rfl ?_
    refine R_iload dX1_seek_60 rfl ?_
    refine R_iload dX1_seek_62 rfl ?_
    refine R_callV4 (k2 := kX1_note) dX1_seek_64 rfl gX1_seek_X1_note kkX1_note rfl rfl (Nat.le_of_ble_eq_true rfl) (c_X1_note (inv_m2 hI (Or.inr rfl)) (by omega) (by omega) (show 0 ≤ p ∧ p < τ 20 0 by omega) (by omega) (by omega) (by omega) (by omega) (by omega) (fun ζ64 n37_64 n38_64 n39_64 n40_64 => ?_))
    show R _ _ _ _ 67 _ [] _ _ _
    have n37 : ζ64 37 0 = min (plc (scM (up τ 2 ((r * 7 + j) * 10 + p) 1) r w) (τ 20 0) p) (ζ1 37 0) := n37_64
    have n38 : ζ64 38 0 = max (plc (scM (up τ 2 ((r * 7 + j) * 10 + p) 1) r w) (τ 20 0) p) (ζ1 38 0) := n38_64
    have n39 : ζ64 39 0 = (if ζ1 39 0 = 1 ∨ (psb (scM (up τ 2 ((r * 7 + j) * 10 + p) 1) r w) (τ 20 0) k p) = 1 then 1 else 0) := n39_64
    have n40 : ζ64 40 0 = (if ζ1 40 0 = 1 ∨ (psb (scM (up τ 2 ((r * 7 + j) * 10 + p) 1) r w) (τ 20 0) k p) = 0 then 1 else 0) := n40_64
    have n39' : ζ64 39 0 = (psb (scM (up τ 2 ((r * 7 + j) * 10 + p) 1) r w) (τ 20 0) k p) := by
      rw [n39]
      split <;> omega
    have n40' : ζ64 40 0 = 1 - (psb (scM (up τ 2 ((r * 7 + j) * 10 + p) 1) r w) (τ 20 0) k p) := by
      rw [n40]
      split <;> omega
    refine R_aload_n dX1_seek_67 rfl ?_
    refine R_getR fX1_seek_20 dX1_seek_68 ?_
    refine R_iload dX1_seek_71 rfl ?_
    refine R_iconst dX1_seek_73 ?_
    refine R_bast (q := 2) GMok rfl rfl (by decide) rfl (by omega) rfl dX1_seek_74 ?_
    rw [up_up]
    refine R_aload_n dX1_seek_75 rfl ?_
    refine R_iload_n dX1_seek_76 rfl ?_
    refine R_iload_n dX1_seek_77 rfl ?_
    refine R_iload dX1_seek_78 rfl ?_
    refine R_iload dX1_seek_80 rfl ?_
    refine R_callV4 (k2 := kX1_note) dX1_seek_82 rfl gX1_seek_X1_note kkX1_note rfl rfl (Nat.le_of_ble_eq_true rfl) (c_X1_note (inv_m2 hI (Or.inl rfl)) (by omega) (by omega) (show 0 ≤ p ∧ p < τ 20 0 by omega) (by omega) (by omega) (by omega) (by omega) (by omega) (fun ζ82 n37_82 n38_82 n39_82 n40_82 => ?_))
    show R _ _ _ _ 85 _ [] _ _ _
    have p37 : ζ82 37 0 = min (plc (scM (up τ 2 ((r * 7 + j) * 10 + p) 0) r w) (τ 20 0) p) (ζ64 37 0) := n37_82
    have p38 : ζ82 38 0 = max (plc (scM (up τ 2 ((r * 7 + j) * 10 + p) 0) r w) (τ 20 0) p) (ζ64 38 0) := n38_82
    have p39 : ζ82 39 0 = (if ζ64 39 0 = 1 ∨ (psb (scM (up τ 2 ((r * 7 + j) * 10 + p) 0) r w) (τ 20 0) k p) = 1 then 1 else 0) := n39_82
    have p40 : ζ82 40 0 = (if ζ64 40 0 = 1 ∨ (psb (scM (up τ 2 ((r * 7 + j) * 10 + p) 0) r w) (τ 20 0) k p) = 0 then 1 else 0) := n40_82
    refine R_aload_n dX1_seek_85 rfl ?_
    refine R_getR fX1_seek_20 dX1_seek_86 ?_
    refine R_iload dX1_seek_89 rfl ?_
    refine R_iload dX1_seek_91 rfl ?_
    refine R_bast (q := 2) GMok rfl rfl (hys _) rfl (by omega) rfl dX1_seek_93 ?_
    refine R_goto (tgt := 150) dX1_seek_94 (by decide) ?_
    refine R_vret rfl dX1_seek_150 ?_
    rw [up_up, up_id rfl]
    have e1 : md τ r w j p 1 = (up τ 2 ((r * 7 + j) * 10 + p) 1) := by
      unfold md
      rw [if_pos c37]
    have e0 : md τ r w j p 0 = (up τ 2 ((r * 7 + j) * 10 + p) 0) := by
      unfold md
      rw [if_pos c37]
    refine hQ ζ82 (by rw [e1]; omega) (by rw [e0]; omega) ?_ ?_
    · rw [e1, p39]
      split <;> omega
    · rw [e0, p40]
      split <;> omega

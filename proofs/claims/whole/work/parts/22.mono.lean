/-! a greater mark, or a yes, never makes the place worse -/
theorem cn_c {v v' : Int → Int} {J : Int} (h : ∀ j, 0 ≤ j → j < J → (v j = -1 ↔ v' j = -1)) : cn v J = cn v' J := by
  refine sm_congr 0 (fun j h1 h2 => ?_)
  have := h j h1 h2
  show ite _ _ _ = ite _ _ _
  split <;> split <;> first | rfl | omega
theorem su_l {v v' : Int → Int} {J : Int} (h : ∀ j, 0 ≤ j → j < J → (v j = -1 ↔ v' j = -1) ∧ v j ≤ v' j) : su v J ≤ su v' J := by
  refine sm_le 0 (fun j h1 h2 => ?_)
  have := h j h1 h2
  show ite _ _ _ ≤ ite _ _ _
  split <;> split <;> omega
theorem so_l {v v' : Int → Int} : ∀ n : Nat, (∀ j, 0 ≤ j → j < (n : Int) → (v j = -1 ↔ v' j = -1) ∧ v j ≤ v' j) → ∀ i, so v n i ≤ so v' n i := by
  intro n
  induction n with
  | zero => intro _ i; exact Int.le_refl _
  | succ n ih =>
    intro h i
    have ih := ih (fun j h1 h2 => h j h1 (by omega))
    have hn := h n (by omega) (by omega)
    rw [show (((n + 1 : Nat)) : Int) = (n : Int) + 1 by omega, so_S (by omega), so_S (by omega)]
    by_cases hv : v n = -1
    · rw [if_pos hv, if_pos (by omega)]
      exact ih i
    · rw [if_neg hv, if_neg (by omega)]
      have h1 := ih i
      have h2 := ih (i - 1)
      show max (so v n (i - 1)) (min (so v n i) (v n)) ≤ max (so v' n (i - 1)) (min (so v' n i) (v' n))
      omega
theorem so_l' {v v' : Int → Int} {J : Int} (hJ : 0 ≤ J) (h : ∀ j, 0 ≤ j → j < J → (v j = -1 ↔ v' j = -1) ∧ v j ≤ v' j) (i : Int) : so v J i ≤ so v' J i := by
  have := so_l J.toNat (fun j h1 h2 => h j h1 (by omega)) i
  rwa [show ((J.toNat : Nat) : Int) = J by omega] at this
theorem yn_l {v v' y y' : Int → Int} {J : Int} (h : ∀ j, 0 ≤ j → j < J → (v j = -1 ↔ v' j = -1)) (hy : ∀ j, 0 ≤ j → j < J → y j ≤ y' j) : yn v y J ≤ yn v' y' J := by
  refine sm_le 0 (fun j h1 h2 => ?_)
  have := h j h1 h2
  have := hy j h1 h2
  show ite _ _ _ ≤ ite _ _ _
  split <;> split <;> omega
theorem dl_l {v v' w : Int → Int} {J : Int} (h : ∀ j, 0 ≤ j → j < J → (v j = -1 ↔ v' j = -1) ∧ v j ≤ v' j) : dl v w J ≤ dl v' w J := by
  refine sg_mono (sm_le 0 (fun j h1 h2 => ?_))
  have := h j h1 h2
  have h3 := sg_mono (show v j - w j ≤ v' j - w j by omega)
  show ite _ _ _ ≤ ite _ _ _
  split <;> split <;> omega
theorem dl_r {v v' w : Int → Int} {J : Int} (h : ∀ j, 0 ≤ j → j < J → (v j = -1 ↔ v' j = -1) ∧ v j ≤ v' j) : dl w v' J ≤ dl w v J := by
  refine sg_mono (sm_le 0 (fun j h1 h2 => ?_))
  have := h j h1 h2
  have h3 := sg_mono (show w j - v' j ≤ w j - v j by omega)
  show ite _ _ _ ≤ ite _ _ _
  split <;> split <;> omega
section Le
variable {V V' Y Y' : Int → Int → Int} {cu pl n J p : Int}
theorem sc_le4 (hV : Mk (V p)) (hV' : Mk (V' p)) (hJ : 0 ≤ J ∧ J ≤ 7) (hcu : 0 ≤ cu) (h : ∀ j, 0 ≤ j → j < J → (V p j = -1 ↔ V' p j = -1) ∧ V p j ≤ V' p j) (hy : ∀ j, 0 ≤ j → j < J → Y p j ≤ Y' p j) {w : Int} (hw : 0 ≤ w ∧ w ≤ 5) (h4 : w ≠ 4) : sc V Y cu pl n J w p ≤ sc V' Y' cu pl n J w p := by
  have hc := cn_c (fun j h1 h2 => (h j h1 h2).1)
  have hcb := cn_bd (v := V p) hJ.1
  by_cases h0 : cn (V p) J = 0
  · rw [sc_n h0, sc_n (by omega)]
    omega
  · have hd : 0 ≤ 176400 / cn (V p) J := Int.ediv_nonneg (by omega) (by omega)
    rcases (show w = 0 ∨ w = 1 ∨ w = 2 ∨ w = 3 ∨ w = 5 by omega) with rfl | rfl | rfl | rfl | rfl
    · rw [sc_0 h0, sc_0 (by omega), ← hc]
      exact Int.mul_le_mul_of_nonneg_left (su_l h) hd
    · rw [sc_1 h0, sc_1 (by omega)]
      have e : ctf (V' p) cu J = ctf (V p) cu J := by
        unfold ctf
        rw [hc]
      have hk := ctf_bd (v := V p) (J := J) hcu (by omega)
      rw [e, ← hc]
      exact Int.mul_le_mul_of_nonneg_left (sm_le _ (fun i _ _ => so_l' hJ.1 h i)) (Int.ediv_nonneg (by omega) (by omega))
    · rw [sc_2 h0, sc_2 (by omega), ← hc]
      have h1 := so_l' hJ.1 h ((cn (V p) J - 1) / 2)
      have h2 := so_l' hJ.1 h (cn (V p) J / 2)
      omega
    · rw [sc_3 h0, sc_3 (by omega), ← hc]
      exact Int.mul_le_mul_of_nonneg_left (yn_l (fun j h1 h2 => (h j h1 h2).1) hy) hd
    · rw [sc_5 h0, sc_5 (by omega), ← hc]
      refine Int.mul_le_mul_of_nonneg_left (sm_le _ (fun i _ _ => ?_)) (Int.ediv_nonneg (by omega) (Int.mul_nonneg (by omega) (by omega)))
      have h1 := so_l' hJ.1 h i
      have h2 := su_l h
      have h3 := Int.mul_le_mul_of_nonneg_left h1 (show 0 ≤ cn (V p) J by omega)
      unfold plf
      rw [← hc]
      omega
theorem prs_up (h : ∀ j, 0 ≤ j → j < J → (V p j = -1 ↔ V' p j = -1) ∧ V p j ≤ V' p j) (hq : ∀ q, 0 ≤ q → q < n → q ≠ p → ∀ j, 0 ≤ j → j < J → V q j = V' q j) : prs V n J p ≤ prs V' n J p := by
  refine sm_le 0 (fun q h1 h2 => ?_)
  show ite _ _ _ ≤ ite _ _ _
  by_cases hqp : q = p
  · rw [if_pos (Or.inl hqp), if_pos (Or.inl hqp)]
    omega
  · have hcq : cn (V q) J = cn (V' q) J := cn_c (fun j h3 h4 => by rw [hq q h1 h2 hqp j h3 h4])
    have h5 : dl (V p) (V q) J ≤ dl (V' p) (V q) J := dl_l h
    have h6 : dl (V' p) (V q) J ≤ dl (V' p) (V' q) J := dl_r (fun j h3 h4 => by rw [hq q h1 h2 hqp j h3 h4]; exact ⟨Iff.rfl, Int.le_refl _⟩)
    by_cases hc : cn (V q) J = 0
    · rw [if_pos (Or.inr hc), if_pos (Or.inr (by omega))]
      omega
    · rw [if_neg (by omega), if_neg (by omega)]
      omega
theorem prs_dn {q : Int} (hqp : q ≠ p) (hqn : 0 ≤ q ∧ q < n) (h : ∀ j, 0 ≤ j → j < J → (V p j = -1 ↔ V' p j = -1) ∧ V p j ≤ V' p j) (hq : ∀ q, 0 ≤ q → q < n → q ≠ p → ∀ j, 0 ≤ j → j < J → V q j = V' q j) : prs V' n J q ≤ prs V n J q := by
  have e0 : ∀ x, 0 ≤ x → x < n → cn (V' x) J = cn (V x) J := by
    intro x h1 h2
    by_cases hx : x = p
    · subst hx
      exact (cn_c (fun j h3 h4 => (h j h3 h4).1)).symm
    · exact (cn_c (fun j h3 h4 => by rw [hq x h1 h2 hx j h3 h4])).symm
  refine sm_le 0 (fun x h1 h2 => ?_)
  show ite _ _ _ ≤ ite _ _ _
  by_cases hxq : x = q
  · rw [if_pos (Or.inl hxq), if_pos (Or.inl hxq)]
    omega
  · have hc := e0 x h1 h2
    have h5 : dl (V' q) (V' x) J ≤ dl (V q) (V' x) J := dl_l (fun j h3 h4 => by rw [hq q hqn.1 hqn.2 hqp j h3 h4]; exact ⟨Iff.rfl, Int.le_refl _⟩)
    have h6 : dl (V q) (V' x) J ≤ dl (V q) (V x) J := by
      by_cases hx : x = p
      · subst hx
        exact dl_r h
      · exact dl_r (fun j h3 h4 => by rw [hq x h1 h2 hx j h3 h4]; exact ⟨Iff.rfl, Int.le_refl _⟩)
    by_cases hc0 : cn (V x) J = 0
    · rw [if_pos (Or.inr (by omega)), if_pos (Or.inr hc0)]
      omega
    · rw [if_neg (by omega), if_neg (by omega)]
      omega
theorem plc_mono {f f' : Int → Int} (hp : f p ≤ f' p) (hq : ∀ q, 0 ≤ q → q < n → q ≠ p → f' q ≤ f q) : plc f' n p ≤ plc f n p := by
  have := sm_le (f := fun q => if f' p < f' q then 1 else 0) (g := fun q => if f p < f q then 1 else 0) (b := n) 0 (fun q h1 h2 => by
    show ite _ _ _ ≤ ite _ _ _
    by_cases hqp : q = p
    · subst hqp
      rw [if_neg (by omega), if_neg (by omega)]
      omega
    · have := hq q h1 h2 hqp
      split <;> split <;> omega)
  unfold plc
  omega
theorem pl_up {w : Int} (hV : ∀ q, Mk (V q)) (hV' : ∀ q, Mk (V' q)) (hn : 0 ≤ p ∧ p < n) (hJ : 0 ≤ J ∧ J ≤ 7) (hcu : 0 ≤ cu) (hw : 0 ≤ w ∧ w ≤ 5) (h : ∀ j, 0 ≤ j → j < J → (V p j = -1 ↔ V' p j = -1) ∧ V p j ≤ V' p j) (hq : ∀ q, 0 ≤ q → q < n → q ≠ p → ∀ j, 0 ≤ j → j < J → V q j = V' q j) (hy : ∀ j, 0 ≤ j → j < J → Y p j ≤ Y' p j) (hyq : ∀ q, 0 ≤ q → q < n → q ≠ p → ∀ j, 0 ≤ j → j < J → Y q j = Y' q j) : plc (sc V' Y' cu pl n J w) n p ≤ plc (sc V Y cu pl n J w) n p := by
  by_cases h4 : w = 4
  · subst h4
    have hc := cn_c (fun j h1 h2 => (h j h1 h2).1)
    refine plc_mono ?_ (fun q h1 h2 h3 => ?_)
    · by_cases h0 : cn (V p) J = 0
      · rw [sc_n h0, sc_n (by omega)]
        omega
      · rw [sc_4 h0, sc_4 (by omega)]
        exact prs_up h hq
    · have hcq : cn (V q) J = cn (V' q) J := cn_c (fun j h5 h6 => by rw [hq q h1 h2 h3 j h5 h6])
      by_cases h0 : cn (V q) J = 0
      · rw [sc_n h0, sc_n (by omega)]
        omega
      · rw [sc_4 h0, sc_4 (by omega)]
        exact prs_dn h3 ⟨h1, h2⟩ h hq
  · refine plc_mono (sc_le4 (hV p) (hV' p) hJ hcu h hy hw h4) (fun q h1 h2 h3 => ?_)
    exact sc_le4 (hV' q) (hV q) hJ hcu (fun j h5 h6 => by rw [hq q h1 h2 h3 j h5 h6]; exact ⟨Iff.rfl, Int.le_refl _⟩) (fun j h5 h6 => by rw [hyq q h1 h2 h3 j h5 h6]; exact Int.le_refl _) hw h4
end Le
theorem psb_mono {f f' : Int → Int} {n k p : Int} (h1 : f p = -1 ↔ f' p = -1) (h2 : plc f' n p ≤ plc f n p) : psb f n k p ≤ psb f' n k p := by
  unfold psb
  split <;> split <;> omega
/-! the same out of the cells: mk marks, ye yeses, pu pupils -/
def upf (f : Int → Int) (z v : Int) : Int → Int := fun z' => if z' = z then v else f z'
def VG (mk pu : Int → Int) (r p j : Int) : Int := if pu (j * 10 + p) = 1 then -1 else mk ((r * 7 + j) * 10 + p)
def YG (ye : Int → Int) (r p j : Int) : Int := ye ((r * 7 + j) * 10 + p)
def scG (mk ye pu : Int → Int) (cu pl n J r w p : Int) : Int := sc (VG mk pu r) (YG ye r) cu pl n J w p
section Cells
variable {mk ye pu : Int → Int} {cu pl n J r w j p : Int}
theorem VG_mk (h : ∀ i, mk i = -1 ∨ (1 ≤ mk i ∧ mk i ≤ 100)) (q : Int) : Mk (VG mk pu r q) := by
  intro j
  unfold VG
  split
  · exact Or.inl rfl
  · exact h _
theorem upf_mk {z v : Int} (h : ∀ i, mk i = -1 ∨ (1 ≤ mk i ∧ mk i ≤ 100)) (hv : 1 ≤ v ∧ v ≤ 100) : ∀ i, upf mk z v i = -1 ∨ (1 ≤ upf mk z v i ∧ upf mk z v i ≤ 100) := by
  intro i
  have := h i
  unfold upf
  split <;> omega
theorem plG_mark {v v' : Int} (h : ∀ i, mk i = -1 ∨ (1 ≤ mk i ∧ mk i ≤ 100)) (hv : 1 ≤ v ∧ v ≤ v' ∧ v' ≤ 100) (hJ : 0 ≤ J ∧ J ≤ 7) (hn : n ≤ 10) (hp : 0 ≤ p ∧ p < n) (hcu : 0 ≤ cu) (hw : 0 ≤ w ∧ w ≤ 5) : plc (scG (upf mk ((r * 7 + j) * 10 + p) v') ye pu cu pl n J r w) n p ≤ plc (scG (upf mk ((r * 7 + j) * 10 + p) v) ye pu cu pl n J r w) n p := by
  refine pl_up (fun q => VG_mk (upf_mk h (by omega)) q) (fun q => VG_mk (upf_mk h (by omega)) q) hp hJ hcu hw (fun i h1 h2 => ?_) (fun q h1 h2 h3 i h4 h5 => ?_) (fun i _ _ => Int.le_refl _) (fun q _ _ _ i _ _ => rfl)
  · unfold VG upf
    split
    · exact ⟨Iff.rfl, Int.le_refl _⟩
    · split
      · omega
      · exact ⟨Iff.rfl, Int.le_refl _⟩
  · unfold VG upf
    rw [if_neg (show ¬ (r * 7 + i) * 10 + q = (r * 7 + j) * 10 + p by omega), if_neg (show ¬ (r * 7 + i) * 10 + q = (r * 7 + j) * 10 + p by omega)]
theorem plG_yes {v v' : Int} (h : ∀ i, mk i = -1 ∨ (1 ≤ mk i ∧ mk i ≤ 100)) (hv : v ≤ v') (hJ : 0 ≤ J ∧ J ≤ 7) (hn : n ≤ 10) (hp : 0 ≤ p ∧ p < n) (hcu : 0 ≤ cu) (hw : 0 ≤ w ∧ w ≤ 5) : plc (scG mk (upf ye ((r * 7 + j) * 10 + p) v') pu cu pl n J r w) n p ≤ plc (scG mk (upf ye ((r * 7 + j) * 10 + p) v) pu cu pl n J r w) n p := by
  refine pl_up (fun q => VG_mk h q) (fun q => VG_mk h q) hp hJ hcu hw (fun i h1 h2 => ⟨Iff.rfl, Int.le_refl _⟩) (fun q h1 h2 h3 i h4 h5 => rfl) (fun i _ _ => ?_) (fun q h1 h2 h3 i h4 h5 => ?_)
  · unfold YG upf
    split
    · exact hv
    · exact Int.le_refl _
  · unfold YG upf
    rw [if_neg (show ¬ (r * 7 + i) * 10 + q = (r * 7 + j) * 10 + p by omega), if_neg (show ¬ (r * 7 + i) * 10 + q = (r * 7 + j) * 10 + p by omega)]
/-- whether it has a score doesn't change with the mark -/
theorem scG_none {v v' : Int} (h : ∀ i, mk i = -1 ∨ (1 ≤ mk i ∧ mk i ≤ 100)) (hye : ∀ i, ye i = 0 ∨ ye i = 1) (hv : 1 ≤ v ∧ v ≤ 100) (hv' : 1 ≤ v' ∧ v' ≤ 100) (hJ : 0 ≤ J ∧ J ≤ 7) (hn : 0 ≤ n ∧ n ≤ 10) (hcu : 0 ≤ cu) (hpl : 1 ≤ pl ∧ pl ≤ 50) (hw : 0 ≤ w ∧ w ≤ 5) : scG (upf mk ((r * 7 + j) * 10 + p) v) ye pu cu pl n J r w p = -1 ↔ scG (upf mk ((r * 7 + j) * 10 + p) v') ye pu cu pl n J r w p = -1 := by
  have hY : ∀ q i, 0 ≤ YG ye r q i ∧ YG ye r q i ≤ 1 := fun q i => by
    have := hye ((r * 7 + i) * 10 + q)
    show 0 ≤ ye _ ∧ ye _ ≤ 1
    omega
  have h1 := sc_bd (V := VG (upf mk ((r * 7 + j) * 10 + p) v) pu r) (Y := YG ye r) (cu := cu) (pl := pl) (n := n) (J := J) (w := w) (p := p) (fun q => VG_mk (upf_mk h hv) q) hY hcu hpl hn hJ hw
  have h2 := sc_bd (V := VG (upf mk ((r * 7 + j) * 10 + p) v') pu r) (Y := YG ye r) (cu := cu) (pl := pl) (n := n) (J := J) (w := w) (p := p) (fun q => VG_mk (upf_mk h hv') q) hY hcu hpl hn hJ hw
  have h3 : cn (VG (upf mk ((r * 7 + j) * 10 + p) v) pu r p) J = cn (VG (upf mk ((r * 7 + j) * 10 + p) v') pu r p) J := by
    refine cn_c (fun i _ _ => ?_)
    unfold VG upf
    split
    · exact Iff.rfl
    · split
      · omega
      · exact Iff.rfl
  unfold scG
  omega
theorem scG_noneY {v v' : Int} (h : ∀ i, mk i = -1 ∨ (1 ≤ mk i ∧ mk i ≤ 100)) (hye : ∀ i, ye i = 0 ∨ ye i = 1) (hv : v = 0 ∨ v = 1) (hv' : v' = 0 ∨ v' = 1) (hJ : 0 ≤ J ∧ J ≤ 7) (hn : 0 ≤ n ∧ n ≤ 10) (hcu : 0 ≤ cu) (hpl : 1 ≤ pl ∧ pl ≤ 50) (hw : 0 ≤ w ∧ w ≤ 5) : scG mk (upf ye ((r * 7 + j) * 10 + p) v) pu cu pl n J r w p = -1 ↔ scG mk (upf ye ((r * 7 + j) * 10 + p) v') pu cu pl n J r w p = -1 := by
  have hY : ∀ v : Int, (v = 0 ∨ v = 1) → ∀ q i, 0 ≤ YG (upf ye ((r * 7 + j) * 10 + p) v) r q i ∧ YG (upf ye ((r * 7 + j) * 10 + p) v) r q i ≤ 1 := fun v hv q i => by
    have := hye ((r * 7 + i) * 10 + q)
    show 0 ≤ ite _ _ _ ∧ ite _ _ _ ≤ 1
    split <;> omega
  have h1 := sc_bd (V := VG mk pu r) (Y := YG (upf ye ((r * 7 + j) * 10 + p) v) r) (cu := cu) (pl := pl) (n := n) (J := J) (w := w) (p := p) (fun q => VG_mk h q) (hY v hv) hcu hpl hn hJ hw
  have h2 := sc_bd (V := VG mk pu r) (Y := YG (upf ye ((r * 7 + j) * 10 + p) v') r) (cu := cu) (pl := pl) (n := n) (J := J) (w := w) (p := p) (fun q => VG_mk h q) (hY v' hv') hcu hpl hn hJ hw
  unfold scG
  omega
end Cells

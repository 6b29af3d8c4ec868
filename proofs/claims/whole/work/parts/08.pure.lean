/-! PURE NUMBERS: sums, folds, sorted marks, scores, places -/
theorem st_ind {P : Nat → Prop} (h : ∀ n, (∀ m, m < n → P m) → P n) (n : Nat) : P n := Nat.strongRecOn n h
def smN (f : Int → Int) : Int → Nat → Int
  | _, 0 => 0
  | a, n + 1 => f a + smN f (a + 1) n
def sm (f : Int → Int) (a b : Int) : Int := smN f a (b - a).toNat
theorem sm_ge {f : Int → Int} {a b : Int} (h : b ≤ a) : sm f a b = 0 := by
  unfold sm
  rw [show (b - a).toNat = 0 by omega]
  rfl
theorem sm_lt {f : Int → Int} {a b : Int} (h : a < b) : sm f a b = f a + sm f (a + 1) b := by
  unfold sm
  rw [show (b - a).toNat = (b - (a + 1)).toNat + 1 by omega]
  rfl
theorem sm_ind {P : Int → Prop} (b : Int) (h0 : ∀ a, b ≤ a → P a) (hs : ∀ a, a < b → P (a + 1) → P a) : ∀ a, P a := by
  have h : ∀ (n : Nat) (a : Int), (b - a).toNat = n → P a := by
    refine st_ind (fun n ih => ?_)
    intro a ha
    by_cases hab : b ≤ a
    · exact h0 a hab
    · exact hs a (by omega) (ih (b - (a + 1)).toNat (by omega) (a + 1) rfl)
  intro a
  exact h _ a rfl
theorem sm_last {f : Int → Int} {b : Int} : ∀ a, a ≤ b → sm f a (b + 1) = sm f a b + f b := by
  refine sm_ind b (fun a h h2 => ?_) (fun a h ih h2 => ?_)
  · have : a = b := by omega
    subst this
    rw [sm_lt (by omega), sm_ge (show a + 1 ≤ a + 1 by omega), sm_ge (show a ≤ a by omega)]
    omega
  · rw [sm_lt (show a < b + 1 by omega), sm_lt h, ih (by omega)]
    omega
theorem sm_congr {f g : Int → Int} {b : Int} : ∀ a, (∀ i, a ≤ i → i < b → f i = g i) → sm f a b = sm g a b := by
  refine sm_ind b (fun a h _ => ?_) (fun a h ih h2 => ?_)
  · rw [sm_ge h, sm_ge h]
  · rw [sm_lt h, sm_lt h, h2 a (by omega) h, ih (fun i h3 h4 => h2 i (by omega) h4)]
theorem sm_le {f g : Int → Int} {b : Int} : ∀ a, (∀ i, a ≤ i → i < b → f i ≤ g i) → sm f a b ≤ sm g a b := by
  refine sm_ind b (fun a h _ => ?_) (fun a h ih h2 => ?_)
  · rw [sm_ge h, sm_ge h]
    omega
  · have h3 := h2 a (by omega) h
    have h4 := ih (fun i h3 h4 => h2 i (by omega) h4)
    rw [sm_lt h, sm_lt h]
    omega
theorem sm_bd {f : Int → Int} {lo hi b : Int} : ∀ a, (∀ i, a ≤ i → i < b → lo ≤ f i ∧ f i ≤ hi) → a ≤ b → lo * (b - a) ≤ sm f a b ∧ sm f a b ≤ hi * (b - a) := by
  refine sm_ind b (fun a h _ h2 => ?_) (fun a h ih h2 _ => ?_)
  · have : a = b := by omega
    subst this
    rw [sm_ge (by omega)]
    simp
  · have h3 := h2 a (by omega) h
    have h4 := ih (fun i h3 h4 => h2 i (by omega) h4) (by omega)
    rw [sm_lt h]
    have e : ∀ c : Int, c * (b - a) = c + c * (b - (a + 1)) := by
      intro c
      rw [show b - a = 1 + (b - (a + 1)) by omega, Int.mul_add, Int.mul_one]
    rw [e, e]
    omega
theorem sm_zero {f : Int → Int} {b : Int} : ∀ a, (∀ i, a ≤ i → i < b → f i = 0) → sm f a b = 0 := by
  refine sm_ind b (fun a h _ => sm_ge h) (fun a h ih h2 => ?_)
  rw [sm_lt h, h2 a (by omega) h, ih (fun i h3 h4 => h2 i (by omega) h4)]
  omega
theorem sm_nonneg {f : Int → Int} {b : Int} : ∀ a, (∀ i, a ≤ i → i < b → 0 ≤ f i) → 0 ≤ sm f a b := by
  refine sm_ind b (fun a h _ => by rw [sm_ge h]; omega) (fun a h ih h2 => ?_)
  have h3 := h2 a (by omega) h
  have h4 := ih (fun i h3 h4 => h2 i (by omega) h4)
  rw [sm_lt h]
  omega
/-- one summand of sums of nothing below 0 -/
theorem sm_one {f : Int → Int} {b j : Int} : ∀ a, (∀ i, a ≤ i → i < b → 0 ≤ f i) → a ≤ j → j < b → f j ≤ sm f a b := by
  refine sm_ind b (fun a h _ h2 h3 => by omega) (fun a h ih h2 h3 h4 => ?_)
  rw [sm_lt h]
  by_cases hj : j = a
  · subst hj
    have := sm_nonneg (f := f) (b := b) (j + 1) (fun i h5 h6 => h2 i (by omega) h6)
    omega
  · have h5 := ih (fun i h5 h6 => h2 i (by omega) h6) (by omega) h4
    have h6 := h2 a (by omega) h
    omega
def foN (g : Int → Int → Int) : Int → Nat → Int → Int
  | _, 0, h => h
  | a, n + 1, h => foN g (a + 1) n (g a h)
def fo (g : Int → Int → Int) (a b h : Int) : Int := foN g a (b - a).toNat h
theorem fo_ge {g : Int → Int → Int} {a b h : Int} (hb : b ≤ a) : fo g a b h = h := by
  unfold fo
  rw [show (b - a).toNat = 0 by omega]
  rfl
theorem fo_lt {g : Int → Int → Int} {a b h : Int} (hb : a < b) : fo g a b h = fo g (a + 1) b (g a h) := by
  unfold fo
  rw [show (b - a).toNat = (b - (a + 1)).toNat + 1 by omega]
  rfl
/-- the sign -/
def sg (z : Int) : Int := if 0 < z then 1 else if z < 0 then -1 else 0
theorem sg_bd (z : Int) : -1 ≤ sg z ∧ sg z ≤ 1 := by
  unfold sg
  split
  · omega
  · split <;> omega
theorem sg_mono {a b : Int} (h : a ≤ b) : sg a ≤ sg b := by
  unfold sg
  split <;> split <;> (try split) <;> (try split) <;> omega
theorem sg_neg (a : Int) : sg (-a) = - sg a := by
  unfold sg
  split <;> split <;> (try split) <;> (try split) <;> omega
/-! the MARKS of one PLAYER that COUNT, by jurors: v j, or -1 -/
def cn (v : Int → Int) (J : Int) : Int := sm (fun j => if v j = -1 then 0 else 1) 0 J
def su (v : Int → Int) (J : Int) : Int := sm (fun j => if v j = -1 then 0 else v j) 0 J
def yn (v y : Int → Int) (J : Int) : Int := sm (fun j => if v j = -1 then 0 else y j) 0 J
/-- the sorted row when a mark came to it -/
def ins (a : Int → Int) (x : Int) : Int → Int := fun i => max (a (i - 1)) (min (a i) x)
def soN (v : Int → Int) : Nat → Int → Int
  | 0 => fun i => if i < 0 then 0 else 1000
  | n + 1 => if v (n : Int) = -1 then soN v n else ins (soN v n) (v (n : Int))
def so (v : Int → Int) (J : Int) : Int → Int := soN v J.toNat
theorem so_0 (v : Int → Int) : so v 0 = fun i => if i < 0 then 0 else 1000 := rfl
theorem so_S {v : Int → Int} {J : Int} (h : 0 ≤ J) : so v (J + 1) = if v J = -1 then so v J else ins (so v J) (v J) := by
  unfold so
  rw [show (J + 1).toNat = J.toNat + 1 by omega]
  show (if v (J.toNat : Int) = -1 then soN v J.toNat else ins (soN v J.toNat) (v (J.toNat : Int))) = _
  rw [show ((J.toNat : Nat) : Int) = J by omega]
/-- sorted, from 0 below the row on, 1000 behind it -/
def Srt (a : Int → Int) (c : Int) : Prop := (∀ i, a i ≤ a (i + 1)) ∧ (∀ i, i < 0 → a i = 0) ∧ (∀ i, c ≤ i → a i = 1000) ∧ ∀ i, 0 ≤ i → i < c → 1 ≤ a i ∧ a i ≤ 100
theorem Srt.mono {a : Int → Int} {c : Int} (h : Srt a c) : ∀ {i j : Int}, i ≤ j → a i ≤ a j := by
  have h1 : ∀ (n : Nat) (i : Int), a i ≤ a (i + n) := by
    intro n
    induction n with
    | zero => intro i; simp
    | succ n ih =>
      intro i
      have h2 := ih i
      have h3 := h.1 (i + n)
      rw [show i + ((n + 1 : Nat) : Int) = i + n + 1 by omega]
      omega
  intro i j hij
  have := h1 (j - i).toNat i
  rwa [show i + (((j - i).toNat : Nat) : Int) = j by omega] at this
theorem Srt.put {a : Int → Int} {c x : Int} (h : Srt a c) (hc : 0 ≤ c) (hx : 1 ≤ x ∧ x ≤ 100) : Srt (ins a x) (c + 1) := by
  obtain ⟨h1, h2, h3, h4⟩ := id h
  refine ⟨fun i => ?_, fun i hi => ?_, fun i hi => ?_, fun i hi hi2 => ?_⟩
  · have e1 := h1 (i - 1)
    have e2 := h1 i
    rw [show i - 1 + 1 = i by omega] at e1
    unfold ins
    rw [show i + 1 - 1 = i by omega]
    omega
  · have e1 := h2 i hi
    have e2 := h2 (i - 1) (by omega)
    unfold ins
    omega
  · have e1 := h3 (i - 1) (by omega)
    have e2 := h3 i (by omega)
    unfold ins
    omega
  · unfold ins
    have e0 : i - 1 < 0 → a (i - 1) = 0 := h2 (i - 1)
    have e1 : 0 ≤ i - 1 → 1 ≤ a (i - 1) ∧ a (i - 1) ≤ 100 := fun q => h4 (i - 1) q (by omega)
    have e2 : i < c → 1 ≤ a i ∧ a i ≤ 100 := h4 i hi
    have e3 : c ≤ i → a i = 1000 := h3 i
    omega
/-- a mark counts or it is none -/
def Mk (v : Int → Int) : Prop := ∀ j, v j = -1 ∨ (1 ≤ v j ∧ v j ≤ 100)
theorem cn_S {v : Int → Int} {J : Int} (h : 0 ≤ J) : cn v (J + 1) = cn v J + (if v J = -1 then 0 else 1) := sm_last 0 h
theorem su_S {v : Int → Int} {J : Int} (h : 0 ≤ J) : su v (J + 1) = su v J + (if v J = -1 then 0 else v J) := sm_last 0 h
theorem cn_bd {v : Int → Int} {J : Int} (h : 0 ≤ J) : 0 ≤ cn v J ∧ cn v J ≤ J := by
  have := sm_bd (f := fun j => if v j = -1 then 0 else 1) (lo := 0) (hi := 1) (b := J) 0 (fun i _ _ => by show 0 ≤ ite _ _ _ ∧ ite _ _ _ ≤ 1; split <;> omega) h
  unfold cn
  omega
theorem su_bd {v : Int → Int} {J : Int} (hv : Mk v) (h : 0 ≤ J) : 0 ≤ su v J ∧ su v J ≤ 100 * J := by
  have := sm_bd (f := fun j => if v j = -1 then 0 else v j) (lo := 0) (hi := 100) (b := J) 0 (fun i _ _ => by
    have := hv i
    show 0 ≤ ite _ _ _ ∧ ite _ _ _ ≤ 100
    split <;> omega) h
  unfold su
  omega
theorem so_srt {v : Int → Int} (hv : Mk v) : ∀ (n : Nat), Srt (so v n) (cn v n) := by
  intro n
  induction n with
  | zero =>
    refine ⟨fun i => ?_, fun i hi => ?_, fun i hi => ?_, fun i h1 h2 => ?_⟩
    · show (if i < 0 then (0:Int) else 1000) ≤ if i + 1 < 0 then 0 else 1000
      split <;> split <;> omega
    · show (if i < 0 then (0:Int) else 1000) = 0
      rw [if_pos hi]
    · have h0 : cn v ((0 : Nat) : Int) = 0 := sm_ge (by simp)
      rw [h0] at hi
      show (if i < 0 then (0:Int) else 1000) = 1000
      rw [if_neg (by omega)]
    · have h0 : cn v ((0 : Nat) : Int) = 0 := sm_ge (by simp)
      rw [h0] at h2
      omega
  | succ n ih =>
    rw [show (((n + 1 : Nat)) : Int) = (n : Int) + 1 by omega, so_S (by omega), cn_S (by omega)]
    by_cases h : v n = -1
    · rw [if_pos h, if_pos h]
      simpa using ih
    · rw [if_neg h, if_neg h]
      have := hv n
      exact ih.put (cn_bd (by omega)).1 (by omega)
theorem so_srt' {v : Int → Int} (hv : Mk v) {J : Int} (h : 0 ≤ J) : Srt (so v J) (cn v J) := by
  have := so_srt hv J.toNat
  rwa [show ((J.toNat : Nat) : Int) = J by omega] at this
/-! the six ways -/
def dl (v w : Int → Int) (J : Int) : Int := sg (sm (fun j => if v j = -1 ∨ w j = -1 then 0 else sg (v j - w j)) 0 J)
def prs (V : Int → Int → Int) (n J p : Int) : Int := sm (fun q => if q = p ∨ cn (V q) J = 0 then 0 else 1 + dl (V p) (V q) J) 0 n
def ctf (v : Int → Int) (cu J : Int) : Int := if 2 * cu < cn v J then cu else 0
def plf (v : Int → Int) (pl J : Int) (i : Int) : Int := min (su v J + cn v J * pl) (max (su v J - cn v J * pl) (cn v J * so v J i))
/-- the score: V the marks that count by players, jurors; Y the yeses likewise -/
def sc (V Y : Int → Int → Int) (cu pl n J w p : Int) : Int :=
  if cn (V p) J = 0 then -1
  else if w = 1 then 176400 / (cn (V p) J - 2 * ctf (V p) cu J) * sm (so (V p) J) (ctf (V p) cu J) (cn (V p) J - ctf (V p) cu J)
  else if w = 2 then 88200 * (so (V p) J ((cn (V p) J - 1) / 2) + so (V p) J (cn (V p) J / 2))
  else if w = 3 then 176400 / cn (V p) J * yn (V p) (Y p) J
  else if w = 4 then prs V n J p
  else if w = 5 then 176400 / (cn (V p) J * cn (V p) J) * sm (plf (V p) pl J) 0 (cn (V p) J)
  else 176400 / cn (V p) J * su (V p) J
def plc (f : Int → Int) (n p : Int) : Int := 1 + sm (fun q => if f p < f q then 1 else 0) 0 n
def pss (f : Int → Int) (n k p : Int) : Prop := f p ≠ -1 ∧ plc f n p ≤ k
theorem plc_bd {f : Int → Int} {n p : Int} (h : 0 ≤ n) : 1 ≤ plc f n p ∧ plc f n p ≤ n + 1 := by
  have := sm_bd (f := fun q => if f p < f q then 1 else 0) (lo := 0) (hi := 1) (b := n) 0 (fun i _ _ => by show 0 ≤ ite _ _ _ ∧ ite _ _ _ ≤ 1; split <;> omega) h
  unfold plc
  omega
theorem div_sum {c S : Int} (h : 1 ≤ c ∧ c ≤ 7) : 176400 * S / c = 176400 / c * S := by
  obtain ⟨h1, h2⟩ := h
  have : c = 1 ∨ c = 2 ∨ c = 3 ∨ c = 4 ∨ c = 5 ∨ c = 6 ∨ c = 7 := by omega
  rcases this with rfl | rfl | rfl | rfl | rfl | rfl | rfl <;> omega

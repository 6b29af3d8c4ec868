/-! THE CLAIM OUT OF ONE WALK OF THE LAW'S BODY. Your part is whole_start (and what it stands on); all else here is the same for every law, but numbers. -/
def R_law : String := "PianoJuryLaw"
def lw_P (b : Addr) (xs : List Int32) (args : Array Value) (s : State) : Prop := args = #[.ref b] ∧ s.IntsAt b xs ∧ xs.length ≤ 3072 ∧ (Jvm.Cond.and given_1 narrow_1).before args s = true
def lw_Q (_ : Array Value) (s : State) (o : Outcome) (t : State) : Prop := o = .returned (some (.int 1)) ∧ Framed s o t [] 600000 7302250
def lw_Z (below : List Frame) (a : Array Value) (s : State) : State → Prop := fun t => ∃ o, t.status = .running ∧ Ended t below o ∧ lw_Q a s o t
/-- the law's own end, with 1 on the stack, nothing written that was there before, its room as the claim has it -/
theorem lw_ret {p : Program} {l : Launch} {e : Env} {s : State} {m : MethodId} {below : List Frame} {meth : Method} {c : Code} {b : Nat} (hx : p.tables.exec = Jvm.exec) (hb : c.code = code) (hr : meth.sig.returnType = ret) (hlocks : meth.locks = false) {pc : Nat} {H : Heap} {ls : Array Slot} (hdg : decode code pc = .ok (.ireturn, 1)) : W p l e room_1 s m #[Value.ref b] below meth c H [] 600000 7302250 (lw_Z below #[Value.ref b] s) (F0 m pc ls [.int 1]) := by
  intro T hT X
  obtain ⟨fs, hret, hrun, hended, hW, hframe⟩ := X.leave (v := some (.int 1)) (hlocks := hlocks) (fun h => by rw [hr] at h; cases h)
  have hmeth' : T.vm.method? m = some meth := X.method'
  refine ⟨T.setFrames fs, ?_, .returned (some (.int 1)), hrun, hended, rfl, ⟨_, rfl⟩, hW, hframe⟩
  jvm_step X.here [X.here.top, hx, hb, hdg, hmeth', hr, ret, narrow_b1]
  (try refine ⟨rfl, ?_⟩); (try refine ⟨rfl, ?_⟩)
  first | (intro acts; rw [hret _ acts rfl rfl rfl]) | rw [hret _ _ rfl rfl rfl]
  exact Steps.refl _
/-- what holds at the law's entry: the machine, the code, the tables' words (any of lw_tbl by 'hts w (by decide +kernel)'), the script of L ints xs at the cell b, what the Statement gives of the start (any of its parts by flat_of_before) -/
def lw_At (p : Program) (s : State) (m : MethodId) (meth : Method) (c : Code) (b L : Nat) (xs : Nat → Int32) : Prop :=
  p.tables.exec = Jvm.exec ∧ c.code = code ∧ meth.sig.returnType = ret ∧ c.maxLocals = 4 ∧ s.vm.findClass R_law = some m.cls ∧ (∀ w ∈ lw_tbl, w.before #[Value.ref b] s = true) ∧ va_X b L xs s s.heap ∧ b < s.heap.size ∧ meth.locks = false ∧ (Jvm.Cond.and given_1 narrow_1).before #[Value.ref b] s = true

/-! THE LAW, step by step -/
def sv (xs : Nat → Int32) (j : Int) : Int := (xs j.toNat).toInt
theorem sv_rg (xs : Nat → Int32) (j : Int) : -2147483648 ≤ sv xs j ∧ sv xs j < 2147483648 := by
  have h1 := Int32.le_toInt (xs j.toNat)
  have h2 := Int32.toInt_lt (xs j.toNat)
  unfold sv
  omega
def bz (v : Int) : Int := if v = 0 then 0 else 1
theorem bz_01 (v : Int) : bz v = 0 ∨ bz v = 1 := by
  unfold bz
  split
  · exact Or.inl rfl
  · exact Or.inr rfl
def lwL (EX EM : Ev) (b : Nat) (i : Int) : List (Option Value) := [some (.ref b), some (.ref (eAd EX 0)), some (.ref (eAd EM 0)), some (.int (zI i))]
def LR (EX EM : Ev) (b L : Nat) (xs : Nat → Int32) (pc : Nat) (i : Int) (st : List Value) (x zx y zy : Sf) : Prop :=
  ∀ (p : Program) (e : Env) (s : State) (m : MethodId) (below : List Frame) (meth : Method) (c : Code) (H : Heap) (locs : List Loc) (ls : Array Slot), lw_At p s m meth c b L xs → HW EX GX x zx s H → HW EM GM y zy s H → (∀ k k', k < 15 → k' < 12 → eAd EX k ≠ eAd EM k') → (∀ k, k < 15 → s.heap.size ≤ eAd EX k) → (∀ k, k < 12 → s.heap.size ≤ eAd EM k) → va_S (fun q : Nat => s.heap.size ≤ q) s.heap H locs → Lh ls 4 (lwL EX EM b i) →
    W p EX.1 e room_1 s m #[Value.ref b] below meth c H locs 27 1239 (lw_Z below #[Value.ref b] s) (F0 m pc ls st)
section LL
variable {EX EM : Ev} {b L : Nat} {xs : Nat → Int32} {pc : Nat} {i : Int} {st : List Value} {x zx y zy : Sf}
theorem L_ald {k : Fin 4} {r : Nat} (hd : decode code pc = .ok (.aload_n k, 1)) (hl : (lwL EX EM b i)[(k : Nat)]? = some (some (.ref r))) (K : LR EX EM b L xs (pc + 1) i (.ref r :: st) x zx y zy) : LR EX EM b L xs pc i st x zx y zy := by
  intro p e s m below meth c H locs ls C0 hX hM hd1 hd2 hd3 hS hL
  exact lv_aload_n C0.1 C0.2.1 hd rfl (hL.2.2 _ _ hl) (K p e s m below meth c H locs ls C0 hX hM hd1 hd2 hd3 hS hL)
theorem L_ild (hd : decode code pc = .ok (.iload_n 3, 1)) (K : LR EX EM b L xs (pc + 1) i (.int (zI i) :: st) x zx y zy) : LR EX EM b L xs pc i st x zx y zy := by
  intro p e s m below meth c H locs ls C0 hX hM hd1 hd2 hd3 hS hL
  exact lv_iload_n C0.1 C0.2.1 hd rfl (hL.2.2 3 _ rfl) (K p e s m below meth c H locs ls C0 hX hM hd1 hd2 hd3 hS hL)
theorem L_con {n : Int} (hd : decode code pc = .ok (.iconst n, 1)) (K : LR EX EM b L xs (pc + 1) i (.int (zI n) :: st) x zx y zy) : LR EX EM b L xs pc i st x zx y zy := by
  intro p e s m below meth c H locs ls C0 hX hM hd1 hd2 hd3 hS hL
  exact lv_iconst C0.1 C0.2.1 hd rfl (K p e s m below meth c H locs ls C0 hX hM hd1 hd2 hd3 hS hL)
theorem L_bip {n : Int} (hd : decode code pc = .ok (.bipush n, 2)) (hv : (Int8.ofInt n).toInt32 = zI n) (K : LR EX EM b L xs (pc + 2) i (.int (zI n) :: st) x zx y zy) : LR EX EM b L xs pc i st x zx y zy := by
  intro p e s m below meth c H locs ls C0 hX hM hd1 hd2 hd3 hS hL
  exact lv_bipush C0.1 C0.2.1 hd hv (K p e s m below meth c H locs ls C0 hX hM hd1 hd2 hd3 hS hL)
theorem L_add {n k : Int} (hd : decode code pc = .ok (.iadd, 1)) (K : LR EX EM b L xs (pc + 1) i (.int (zI (n + k)) :: st) x zx y zy) : LR EX EM b L xs pc i (.int (zI k) :: .int (zI n) :: st) x zx y zy := by
  intro p e s m below meth c H locs ls C0 hX hM hd1 hd2 hd3 hS hL
  refine lv_iadd C0.1 C0.2.1 hd ?_
  rw [zI_add]
  exact K p e s m below meth c H locs ls C0 hX hM hd1 hd2 hd3 hS hL
theorem L_sub {n k : Int} (hd : decode code pc = .ok (.isub, 1)) (K : LR EX EM b L xs (pc + 1) i (.int (zI (n - k)) :: st) x zx y zy) : LR EX EM b L xs pc i (.int (zI k) :: .int (zI n) :: st) x zx y zy := by
  intro p e s m below meth c H locs ls C0 hX hM hd1 hd2 hd3 hS hL
  refine lv_isub C0.1 C0.2.1 hd ?_
  rw [zI_sub]
  exact K p e s m below meth c H locs ls C0 hX hM hd1 hd2 hd3 hS hL
theorem L_and31 {n : Int} (hd : decode code pc = .ok (.iand, 1)) (K : ∀ z : Int, 0 ≤ z → z < 32 → LR EX EM b L xs (pc + 1) i (.int (zI z) :: st) x zx y zy) : LR EX EM b L xs pc i (.int (zI 31) :: .int (zI n) :: st) x zx y zy := by
  intro p e s m below meth c H locs ls C0 hX hM hd1 hd2 hd3 hS hL
  refine lv_iand C0.1 C0.2.1 hd ?_
  obtain ⟨j, hj, he⟩ := pk_andE (zI n) (m := zI 31) 5 (by decide)
  rw [he, ← zI_nat]
  exact K (j : Int) (by omega) (by omega) p e s m below meth c H locs ls C0 hX hM hd1 hd2 hd3 hS hL
theorem L_len (hd : decode code pc = .ok (.arraylength, 1)) (K : LR EX EM b L xs (pc + 1) i (.int (zI (L : Int)) :: st) x zx y zy) : LR EX EM b L xs pc i (.ref b :: st) x zx y zy := by
  intro p e s m below meth c H locs ls C0 hX hM hd1 hd2 hd3 hS hL
  have e1 : Int32.ofNat L = zI (L : Int) := (Int32.ofInt_eq_ofNat).symm
  have K1 := K p e s m below meth c H locs ls C0 hX hM hd1 hd2 hd3 hS hL
  rw [← e1] at K1
  obtain ⟨q1, q2, q3, q4, q5, q6, q7, q8, q9, q10⟩ := C0
  exact va_slen q1 q2 q7 q8 (fun h => Nat.not_le.mpr q8 h) hS hd K1
theorem L_sld {j : Int} (hj : 0 ≤ j ∧ j < L) (hL31 : L < 2147483648) (hd : decode code pc = .ok (.iaload, 1)) (K : LR EX EM b L xs (pc + 1) i (.int (zI (sv xs j)) :: st) x zx y zy) : LR EX EM b L xs pc i (.int (zI j) :: .ref b :: st) x zx y zy := by
  intro p e s m below meth c H locs ls C0 hX hM hd1 hd2 hd3 hS hL
  have K1 := K p e s m below meth c H locs ls C0 hX hM hd1 hd2 hd3 hS hL
  obtain ⟨q1, q2, q3, q4, q5, q6, q7, q8, q9, q10⟩ := C0
  have e1 : zI (sv xs j) = xs (zI j).toNatClampNeg := by
    have h1 := zI_cl (z := j) (by omega)
    have h2 : (zI j).toNatClampNeg = j.toNat := by omega
    rw [h2]
    exact Int32.ofInt_toInt _
  rw [e1] at K1
  exact va_sld q1 q2 q7 q8 (fun h => Nat.not_le.mpr q8 h) hS (zI_in hj (by omega)) hd K1
theorem L_goto {off : Int} {tgt : Nat} (hd : decode code pc = .ok (.goto off, 3)) (ht : (pc : Int) + off = (tgt : Int)) (K : LR EX EM b L xs tgt i st x zx y zy) : LR EX EM b L xs pc i st x zx y zy := by
  intro p e s m below meth c H locs ls C0 hX hM hd1 hd2 hd3 hS hL
  exact lv_goto C0.1 C0.2.1 hd ht (K p e s m below meth c H locs ls C0 hX hM hd1 hd2 hd3 hS hL)
theorem L_gt {n k off : Int} {tgt : Nat} (hr : (-2147483648 ≤ n ∧ n < 2147483648) ∧ (-2147483648 ≤ k ∧ k < 2147483648)) (hd : decode code pc = .ok (.if_icmp .gt off, 3)) (ht : (pc : Int) + off = (tgt : Int)) (kt : k < n → LR EX EM b L xs tgt i st x zx y zy) (kf : n ≤ k → LR EX EM b L xs (pc + 3) i st x zx y zy) : LR EX EM b L xs pc i (.int (zI k) :: .int (zI n) :: st) x zx y zy := by
  intro p e s m below meth c H locs ls C0 hX hM hd1 hd2 hd3 hS hL
  exact lv_icmp_gt C0.1 C0.2.1 hd ht (fun h => kt ((zI_lt ⟨hr.2, hr.1⟩).mp h) p e s m below meth c H locs ls C0 hX hM hd1 hd2 hd3 hS hL) (fun h => kf (Int.not_lt.mp (fun q => h ((zI_lt ⟨hr.2, hr.1⟩).mpr q))) p e s m below meth c H locs ls C0 hX hM hd1 hd2 hd3 hS hL)
theorem L_same {n k off : Int} {tgt : Nat} (h : n = k) (hd : decode code pc = .ok (.if_icmp .eq off, 3)) (ht : (pc : Int) + off = (tgt : Int)) (kt : LR EX EM b L xs tgt i st x zx y zy) : LR EX EM b L xs pc i (.int (zI k) :: .int (zI n) :: st) x zx y zy := by
  subst h
  intro p e s m below meth c H locs ls C0 hX hM hd1 hd2 hd3 hS hL
  exact lv_icmp_eq C0.1 C0.2.1 hd ht (fun _ => kt p e s m below meth c H locs ls C0 hX hM hd1 hd2 hd3 hS hL) (fun h => absurd rfl h)
theorem L_bool {v off off2 : Int} {pc2 : Nat} (hv : -2147483648 ≤ v ∧ v < 2147483648) (d1 : decode code pc = .ok (.ifCond .eq off, 3)) (d2 : decode code (pc + 3) = .ok (.iconst 1, 1)) (d3 : decode code (pc + 4) = .ok (.goto off2, 3)) (d4 : decode code (pc + 7) = .ok (.iconst 0, 1)) (h1 : ((pc : Nat) : Int) + off = ((pc + 7 : Nat) : Int)) (h2 : ((pc + 4 : Nat) : Int) + off2 = ((pc2 : Nat) : Int)) (h3 : pc + 8 = pc2) (K : LR EX EM b L xs pc2 i (.int (zI (bz v)) :: st) x zx y zy) : LR EX EM b L xs pc i (.int (zI v) :: st) x zx y zy := by
  subst h3
  intro p e s m below meth c H locs ls C0 hX hM hd1 hd2 hd3 hS hL
  have K1 := K p e s m below meth c H locs ls C0 hX hM hd1 hd2 hd3 hS hL
  refine lv_if_eq C0.1 C0.2.1 d1 h1 (fun h => ?_) (fun h => ?_)
  · have hv0 : v = 0 := (zI_eq ⟨hv, by omega⟩).mp h
    rw [hv0] at K1
    exact lv_iconst C0.1 C0.2.1 d4 rfl K1
  · have hv0 : v ≠ 0 := fun q => h (by rw [q]; rfl)
    rw [show bz v = 1 from if_neg hv0] at K1
    exact lv_iconst C0.1 C0.2.1 d2 rfl (lv_goto C0.1 C0.2.1 d3 h2 K1)
theorem L_tab {z off dflt lo hi : Int} {offs : Array Int} {tgt len : Nat} (hr : -2147483648 ≤ z ∧ z < 2147483648) (hd : decode code pc = .ok (.tableswitch dflt lo hi offs, len)) (h : lo ≤ z ∧ z ≤ hi) (ho : offs[(z - lo).toNat]? = some off) (ht : (pc : Int) + off = (tgt : Int)) (K : LR EX EM b L xs tgt i st x zx y zy) : LR EX EM b L xs pc i (.int (zI z) :: st) x zx y zy := by
  intro p e s m below meth c H locs ls C0 hX hM hd1 hd2 hd3 hS hL
  exact lv_tableIn C0.1 C0.2.1 hd (by rw [zI_toInt hr]; omega) (by rw [zI_toInt hr]; omega) (by rw [zI_toInt hr]; exact ho) ht (K p e s m below meth c H locs ls C0 hX hM hd1 hd2 hd3 hS hL)
theorem L_out {z dflt lo hi : Int} {offs : Array Int} {tgt len : Nat} (hr : -2147483648 ≤ z ∧ z < 2147483648) (hd : decode code pc = .ok (.tableswitch dflt lo hi offs, len)) (h : z < lo ∨ hi < z) (ht : (pc : Int) + dflt = (tgt : Int)) (K : LR EX EM b L xs tgt i st x zx y zy) : LR EX EM b L xs pc i (.int (zI z) :: st) x zx y zy := by
  intro p e s m below meth c H locs ls C0 hX hM hd1 hd2 hd3 hS hL
  exact lv_tableOut C0.1 C0.2.1 hd (by rw [zI_toInt hr]; exact h) ht (K p e s m below meth c H locs ls C0 hX hM hd1 hd2 hd3 hS hL)
theorem L_lcmp {n k : Int} (h : n = k) (hd : decode code pc = .ok (.lcmp, 1)) {off : Int} {tgt : Nat} (d2 : decode code (pc + 1) = .ok (.ifCond .eq off, 3)) (ht : ((pc + 1 : Nat) : Int) + off = (tgt : Int)) (K : LR EX EM b L xs tgt i st x zx y zy) : LR EX EM b L xs pc i (.long (zL k) :: .long (zL n) :: st) x zx y zy := by
  subst h
  intro p e s m below meth c H locs ls C0 hX hM hd1 hd2 hd3 hS hL
  refine W.lcmp C0.1 C0.2.1 hd ?_
  have e0 : lg_cmp (zL n) (zL n) = 0 := by
    unfold lg_cmp
    rw [if_neg (by simp [Int64.lt_iff_toInt_lt]), if_pos rfl]
  rw [e0]
  exact lv_if_eq C0.1 C0.2.1 d2 ht (fun _ => K p e s m below meth c H locs ls C0 hX hM hd1 hd2 hd3 hS hL) (fun h => absurd rfl h)
theorem L_inc {n : Int} (hd : decode code pc = .ok (.iinc 3 n, 3)) (K : LR EX EM b L xs (pc + 3) (i + n) st x zx y zy) : LR EX EM b L xs pc i st x zx y zy := by
  intro p e s m below meth c H locs ls C0 hX hM hd1 hd2 hd3 hS hL
  obtain ⟨q, hq⟩ := List.getElem?_of_mem (asL_mem.mpr (show (lwL EX EM b i)[3]? = some (some (.int (zI i))) from rfl))
  exact lv_iinc (v := zI (i + n)) C0.1 C0.2.1 hd hL.has hq (zI_add i n) (by decide) rfl (fun ls' h => K p e s m below meth c H locs ls' C0 hX hM hd1 hd2 hd3 hS (Lh.set1 h rfl))
/-- the law's end -/
theorem L_end (hd : decode code pc = .ok (.ireturn, 1)) : LR EX EM b L xs pc i [.int (zI 1)] x zx y zy := by
  intro p e s m below meth c H locs ls C0 hX hM hd1 hd2 hd3 hS hL
  obtain ⟨q1, q2, q3, q4, q5, q6, q7, q8, q9, q10⟩ := C0
  refine va_forget (fun q hq => hS.2.2 q hq) ?_
  refine W.widen (k := 600000) (n := 7302250) (Nat.le_of_ble_eq_true rfl) (Nat.le_of_ble_eq_true rfl) ?_
  exact lw_ret q1 q2 q3 q9 hd
/-- a world that a call doesn't reach stays -/
theorem HW_kept {E : Ev} {G : Gd} {τ ζ : Sf} {s : State} {H H1 : Heap} {A : Nat → Prop} (h : HW E G τ ζ s H) (hk : ∀ q : Nat, q < H.size → ¬ A q → H1[q]? = H[q]?) (hd : ∀ k, k < G.2.1.length → ¬ A (eAd E k)) : HW E G τ ζ s H1 := by
  refine ⟨h.1, h.2.1.kept (fun k q hq => ?_), h.2.2⟩
  have h1 := (h.2.1 k q hq).lt
  obtain ⟨k', hk', he⟩ := h.2.2.2 k q hq
  refine hk q.1 h1 (fun ha => ?_)
  rw [he] at ha
  exact hd k' hk' ha
theorem L_callX {k2 : Mt} {idx n : Nat} {as : List Value} (hd : decode code pc = .ok (.invokevirtual idx, 3)) (g : GoodIn wsL_law (wsV RL idx k2.1.cls k2.1 k2.2.1)) (hk : Kok k2 n) (hn : as.length = n) (hc : k2.1.cls = RX0) (hst : (st.map fun v => v.category).sum ≤ 8) (K : C EX GX k2 40 (.ref (eAd EX 0) :: as) x zx (fun v x' zx' => LR EX EM b L xs (pc + 3) i (v.toList ++ st) x' zx' y zy)) : LR EX EM b L xs pc i (as.reverse ++ .ref (eAd EX 0) :: st) x zx y zy := by
  intro p e s m below meth c H locs ls C0 hX hM hd1 hd2 hd3 hS hL
  obtain ⟨q1, q2, q3, q4, q5, q6, q7, q8, q9, q10⟩ := id C0
  refine W_callV (E := EX) (G := GX) (d := 40) (n := n) (as := as) (Ts := wsL_law) q1 q2 q4 q5 (fun w h => q6 w (wsL_law_in w h)) hL.1 hd g hk hn (by rw [hc]; rfl) rfl hst ⟨Nat.le_of_ble_eq_true rfl, Nat.le_of_ble_eq_true rfl⟩ ⟨Nat.le_of_ble_eq_true rfl, Nat.le_of_ble_eq_true rfl⟩ hX hS (by rintro q ⟨k, hk, rfl⟩; exact hd2 k hk) K (fun v x' zx' H1 locs1 hv hX1 hz hk1 hS1 => ?_)
  exact hv p e s m below meth c H1 locs1 ls C0 hX1 (HW_kept hM hk1 (fun k' hk' => by rintro ⟨k, hk, he⟩; exact hd1 k k' hk hk' he.symm)) hd1 hd2 hd3 hS1 hL
theorem L_callM {k2 : Mt} {idx n : Nat} {as : List Value} (hl : EM.1 = EX.1) (hd : decode code pc = .ok (.invokevirtual idx, 3)) (g : GoodIn wsL_law (wsV RL idx k2.1.cls k2.1 k2.2.1)) (hk : Kok k2 n) (hn : as.length = n) (hc : k2.1.cls = RX1) (hst : (st.map fun v => v.category).sum ≤ 8) (K : C EM GM k2 40 (.ref (eAd EM 0) :: as) y zy (fun v y' zy' => LR EX EM b L xs (pc + 3) i (v.toList ++ st) x zx y' zy')) : LR EX EM b L xs pc i (as.reverse ++ .ref (eAd EM 0) :: st) x zx y zy := by
  intro p e s m below meth c H locs ls C0 hX hM hd1 hd2 hd3 hS hL
  obtain ⟨q1, q2, q3, q4, q5, q6, q7, q8, q9, q10⟩ := id C0
  rw [← hl]
  refine W_callV (E := EM) (G := GM) (d := 40) (n := n) (as := as) (Ts := wsL_law) q1 q2 q4 q5 (fun w h => q6 w (wsL_law_in w h)) hL.1 hd g hk hn (by rw [hc]; rfl) rfl hst ⟨Nat.le_of_ble_eq_true rfl, Nat.le_of_ble_eq_true rfl⟩ ⟨Nat.le_of_ble_eq_true rfl, Nat.le_of_ble_eq_true rfl⟩ hM hS (by rintro q ⟨k, hk, rfl⟩; exact hd3 k hk) K (fun v y' zy' H1 locs1 hv hM1 hz hk1 hS1 => ?_)
  rw [hl]
  exact hv p e s m below meth c H1 locs1 ls C0 (HW_kept hX hk1 (fun k' hk' => by rintro ⟨k, hk, he⟩; exact hd1 k' k hk' hk he)) hM1 hd1 hd2 hd3 hS1 hL
theorem L_callX0 {k2 : Mt} {idx : Nat} (hd : decode code pc = .ok (.invokevirtual idx, 3)) (g : GoodIn wsL_law (wsV RL idx k2.1.cls k2.1 k2.2.1)) (hk : Kok k2 0) (hc : k2.1.cls = RX0) (hst : (st.map fun v => v.category).sum ≤ 8) (K : C EX GX k2 40 (.ref (eAd EX 0) :: []) x zx (fun v x' zx' => LR EX EM b L xs (pc + 3) i (v.toList ++ st) x' zx' y zy)) : LR EX EM b L xs pc i (.ref (eAd EX 0) :: st) x zx y zy :=
  L_callX (as := []) hd g hk rfl hc hst K
theorem L_callM0 {k2 : Mt} {idx : Nat} (hl : EM.1 = EX.1) (hd : decode code pc = .ok (.invokevirtual idx, 3)) (g : GoodIn wsL_law (wsV RL idx k2.1.cls k2.1 k2.2.1)) (hk : Kok k2 0) (hc : k2.1.cls = RX1) (hst : (st.map fun v => v.category).sum ≤ 8) (K : C EM GM k2 40 (.ref (eAd EM 0) :: []) y zy (fun v y' zy' => LR EX EM b L xs (pc + 3) i (v.toList ++ st) x zx y' zy')) : LR EX EM b L xs pc i (.ref (eAd EM 0) :: st) x zx y zy :=
  L_callM (as := []) hl hd g hk rfl hc hst K
theorem L_callX1 {k2 : Mt} {idx : Nat} {v1 : Value} (hd : decode code pc = .ok (.invokevirtual idx, 3)) (g : GoodIn wsL_law (wsV RL idx k2.1.cls k2.1 k2.2.1)) (hk : Kok k2 1) (hc : k2.1.cls = RX0) (hst : (st.map fun v => v.category).sum ≤ 8) (K : C EX GX k2 40 (.ref (eAd EX 0) :: [v1]) x zx (fun v x' zx' => LR EX EM b L xs (pc + 3) i (v.toList ++ st) x' zx' y zy)) : LR EX EM b L xs pc i (v1 :: .ref (eAd EX 0) :: st) x zx y zy :=
  L_callX (as := [v1]) hd g hk rfl hc hst K
theorem L_callM1 {k2 : Mt} {idx : Nat} {v1 : Value} (hl : EM.1 = EX.1) (hd : decode code pc = .ok (.invokevirtual idx, 3)) (g : GoodIn wsL_law (wsV RL idx k2.1.cls k2.1 k2.2.1)) (hk : Kok k2 1) (hc : k2.1.cls = RX1) (hst : (st.map fun v => v.category).sum ≤ 8) (K : C EM GM k2 40 (.ref (eAd EM 0) :: [v1]) y zy (fun v y' zy' => LR EX EM b L xs (pc + 3) i (v.toList ++ st) x zx y' zy')) : LR EX EM b L xs pc i (v1 :: .ref (eAd EM 0) :: st) x zx y zy :=
  L_callM (as := [v1]) hl hd g hk rfl hc hst K
theorem L_callX2 {k2 : Mt} {idx : Nat} {v1 v2 : Value} (hd : decode code pc = .ok (.invokevirtual idx, 3)) (g : GoodIn wsL_law (wsV RL idx k2.1.cls k2.1 k2.2.1)) (hk : Kok k2 2) (hc : k2.1.cls = RX0) (hst : (st.map fun v => v.category).sum ≤ 8) (K : C EX GX k2 40 (.ref (eAd EX 0) :: [v1, v2]) x zx (fun v x' zx' => LR EX EM b L xs (pc + 3) i (v.toList ++ st) x' zx' y zy)) : LR EX EM b L xs pc i (v2 :: v1 :: .ref (eAd EX 0) :: st) x zx y zy :=
  L_callX (as := [v1, v2]) hd g hk rfl hc hst K
theorem L_callM2 {k2 : Mt} {idx : Nat} {v1 v2 : Value} (hl : EM.1 = EX.1) (hd : decode code pc = .ok (.invokevirtual idx, 3)) (g : GoodIn wsL_law (wsV RL idx k2.1.cls k2.1 k2.2.1)) (hk : Kok k2 2) (hc : k2.1.cls = RX1) (hst : (st.map fun v => v.category).sum ≤ 8) (K : C EM GM k2 40 (.ref (eAd EM 0) :: [v1, v2]) y zy (fun v y' zy' => LR EX EM b L xs (pc + 3) i (v.toList ++ st) x zx y' zy')) : LR EX EM b L xs pc i (v2 :: v1 :: .ref (eAd EM 0) :: st) x zx y zy :=
  L_callM (as := [v1, v2]) hl hd g hk rfl hc hst K
theorem L_callX3 {k2 : Mt} {idx : Nat} {v1 v2 v3 : Value} (hd : decode code pc = .ok (.invokevirtual idx, 3)) (g : GoodIn wsL_law (wsV RL idx k2.1.cls k2.1 k2.2.1)) (hk : Kok k2 3) (hc : k2.1.cls = RX0) (hst : (st.map fun v => v.category).sum ≤ 8) (K : C EX GX k2 40 (.ref (eAd EX 0) :: [v1, v2, v3]) x zx (fun v x' zx' => LR EX EM b L xs (pc + 3) i (v.toList ++ st) x' zx' y zy)) : LR EX EM b L xs pc i (v3 :: v2 :: v1 :: .ref (eAd EX 0) :: st) x zx y zy :=
  L_callX (as := [v1, v2, v3]) hd g hk rfl hc hst K
theorem L_callM3 {k2 : Mt} {idx : Nat} {v1 v2 v3 : Value} (hl : EM.1 = EX.1) (hd : decode code pc = .ok (.invokevirtual idx, 3)) (g : GoodIn wsL_law (wsV RL idx k2.1.cls k2.1 k2.2.1)) (hk : Kok k2 3) (hc : k2.1.cls = RX1) (hst : (st.map fun v => v.category).sum ≤ 8) (K : C EM GM k2 40 (.ref (eAd EM 0) :: [v1, v2, v3]) y zy (fun v y' zy' => LR EX EM b L xs (pc + 3) i (v.toList ++ st) x zx y' zy')) : LR EX EM b L xs pc i (v3 :: v2 :: v1 :: .ref (eAd EM 0) :: st) x zx y zy :=
  L_callM (as := [v1, v2, v3]) hl hd g hk rfl hc hst K
theorem L_callX4 {k2 : Mt} {idx : Nat} {v1 v2 v3 v4 : Value} (hd : decode code pc = .ok (.invokevirtual idx, 3)) (g : GoodIn wsL_law (wsV RL idx k2.1.cls k2.1 k2.2.1)) (hk : Kok k2 4) (hc : k2.1.cls = RX0) (hst : (st.map fun v => v.category).sum ≤ 8) (K : C EX GX k2 40 (.ref (eAd EX 0) :: [v1, v2, v3, v4]) x zx (fun v x' zx' => LR EX EM b L xs (pc + 3) i (v.toList ++ st) x' zx' y zy)) : LR EX EM b L xs pc i (v4 :: v3 :: v2 :: v1 :: .ref (eAd EX 0) :: st) x zx y zy :=
  L_callX (as := [v1, v2, v3, v4]) hd g hk rfl hc hst K
theorem L_callM4 {k2 : Mt} {idx : Nat} {v1 v2 v3 v4 : Value} (hl : EM.1 = EX.1) (hd : decode code pc = .ok (.invokevirtual idx, 3)) (g : GoodIn wsL_law (wsV RL idx k2.1.cls k2.1 k2.2.1)) (hk : Kok k2 4) (hc : k2.1.cls = RX1) (hst : (st.map fun v => v.category).sum ≤ 8) (K : C EM GM k2 40 (.ref (eAd EM 0) :: [v1, v2, v3, v4]) y zy (fun v y' zy' => LR EX EM b L xs (pc + 3) i (v.toList ++ st) x zx y' zy')) : LR EX EM b L xs pc i (v4 :: v3 :: v2 :: v1 :: .ref (eAd EM 0) :: st) x zx y zy :=
  L_callM (as := [v1, v2, v3, v4]) hl hd g hk rfl hc hst K
theorem L_callX5 {k2 : Mt} {idx : Nat} {v1 v2 v3 v4 v5 : Value} (hd : decode code pc = .ok (.invokevirtual idx, 3)) (g : GoodIn wsL_law (wsV RL idx k2.1.cls k2.1 k2.2.1)) (hk : Kok k2 5) (hc : k2.1.cls = RX0) (hst : (st.map fun v => v.category).sum ≤ 8) (K : C EX GX k2 40 (.ref (eAd EX 0) :: [v1, v2, v3, v4, v5]) x zx (fun v x' zx' => LR EX EM b L xs (pc + 3) i (v.toList ++ st) x' zx' y zy)) : LR EX EM b L xs pc i (v5 :: v4 :: v3 :: v2 :: v1 :: .ref (eAd EX 0) :: st) x zx y zy :=
  L_callX (as := [v1, v2, v3, v4, v5]) hd g hk rfl hc hst K
theorem L_callM5 {k2 : Mt} {idx : Nat} {v1 v2 v3 v4 v5 : Value} (hl : EM.1 = EX.1) (hd : decode code pc = .ok (.invokevirtual idx, 3)) (g : GoodIn wsL_law (wsV RL idx k2.1.cls k2.1 k2.2.1)) (hk : Kok k2 5) (hc : k2.1.cls = RX1) (hst : (st.map fun v => v.category).sum ≤ 8) (K : C EM GM k2 40 (.ref (eAd EM 0) :: [v1, v2, v3, v4, v5]) y zy (fun v y' zy' => LR EX EM b L xs (pc + 3) i (v.toList ++ st) x zx y' zy')) : LR EX EM b L xs pc i (v5 :: v4 :: v3 :: v2 :: v1 :: .ref (eAd EM 0) :: st) x zx y zy :=
  L_callM (as := [v1, v2, v3, v4, v5]) hl hd g hk rfl hc hst K
end LL
theorem Sx18 {x m : Sf} (S : Sim x m) : ∀ i, 0 ≤ x 4 i ∧ x 4 i ≤ 50 := by
  obtain ⟨hX, hM, e20, e21, e1, e2, e3, e25, e26, e4, e5, e6, e8, e7, hch, hhe, hz9, hpos, hru, hlt⟩ := S
  exact hru
set_option maxHeartbeats 4000000 in
set_option maxRecDepth 100000 in
theorem law_case0 {EX EM : Ev} {b L : Nat} {xs : Nat → Int32} {i : Int} {x zx y zy : Sf} (hl : EM.1 = EX.1) (hL31 : L < 2147483648) (hi : 0 ≤ i ∧ i + 6 ≤ L) (S : Sim x y) (next : ∀ x' zx' y' zy' : Sf, Sim x' y' → LR EX EM b L xs 1113 i [] x' zx' y' zy') : LR EX EM b L xs 152 i [] x zx y zy := by
  refine L_ald dL_law_152 rfl ?_
  refine L_ald dL_law_153 rfl ?_
  refine L_ild dL_law_154 ?_
  refine L_con dL_law_155 ?_
  refine L_add dL_law_156 ?_
  refine L_sld (by omega) hL31 dL_law_157 ?_
  refine L_ald dL_law_158 rfl ?_
  refine L_ild dL_law_159 ?_
  refine L_con dL_law_160 ?_
  refine L_add dL_law_161 ?_
  refine L_sld (by omega) hL31 dL_law_162 ?_
  refine L_callX2 (k2 := kX0_contest) dL_law_163 gL_law_X0_contest kkX0_contest rfl (Nat.le_of_ble_eq_true rfl) (c_X0_contest S.1 ⟨sv_rg _ _, sv_rg _ _⟩  (fun z1 τ1 ζ1 h1 t1 => ?_))
  show LR EX EM b L xs 166 i [.int (zI z1)] _ _ _ _
  refine L_ald dL_law_166 rfl ?_
  refine L_ald dL_law_167 rfl ?_
  refine L_ild dL_law_168 ?_
  refine L_con dL_law_169 ?_
  refine L_add dL_law_170 ?_
  refine L_sld (by omega) hL31 dL_law_171 ?_
  refine L_ald dL_law_172 rfl ?_
  refine L_ild dL_law_173 ?_
  refine L_con dL_law_174 ?_
  refine L_add dL_law_175 ?_
  refine L_sld (by omega) hL31 dL_law_176 ?_
  refine L_callM2 (k2 := kX1_contest) hl dL_law_177 gL_law_X1_contest kkX1_contest rfl (Nat.le_of_ble_eq_true rfl) (c_X1_contest S.2.1 ⟨sv_rg _ _, sv_rg _ _⟩  (fun z2 τ2 ζ2 h2 t2 => ?_))
  show LR EX EM b L xs 180 i [.int (zI z2), .int (zI z1)] _ _ _ _
  have hs := sim_contest S (sv xs (i + 1)) (sv xs (i + 2)) 
  refine L_same (tgt := 1113) (by rw [h1, h2]; exact hs.1.symm) dL_law_180 (by decide) ?_
  rw [t1, t2]
  exact next _ _ _ _ hs.2
set_option maxHeartbeats 4000000 in
set_option maxRecDepth 100000 in
theorem law_case1 {EX EM : Ev} {b L : Nat} {xs : Nat → Int32} {i : Int} {x zx y zy : Sf} (hl : EM.1 = EX.1) (hL31 : L < 2147483648) (hi : 0 ≤ i ∧ i + 6 ≤ L) (S : Sim x y) (next : ∀ x' zx' y' zy' : Sf, Sim x' y' → LR EX EM b L xs 1113 i [] x' zx' y' zy') : LR EX EM b L xs 185 i [] x zx y zy := by
  refine L_ald dL_law_185 rfl ?_
  refine L_ald dL_law_186 rfl ?_
  refine L_ild dL_law_187 ?_
  refine L_con dL_law_188 ?_
  refine L_add dL_law_189 ?_
  refine L_sld (by omega) hL31 dL_law_190 ?_
  refine L_ald dL_law_191 rfl ?_
  refine L_ild dL_law_192 ?_
  refine L_con dL_law_193 ?_
  refine L_add dL_law_194 ?_
  refine L_sld (by omega) hL31 dL_law_195 ?_
  refine L_ald dL_law_196 rfl ?_
  refine L_ild dL_law_197 ?_
  refine L_con dL_law_198 ?_
  refine L_add dL_law_199 ?_
  refine L_sld (by omega) hL31 dL_law_200 ?_
  refine L_ald dL_law_201 rfl ?_
  refine L_ild dL_law_202 ?_
  refine L_con dL_law_203 ?_
  refine L_add dL_law_204 ?_
  refine L_sld (by omega) hL31 dL_law_205 ?_
  refine L_callX4 (k2 := kX0_mark) dL_law_206 gL_law_X0_mark kkX0_mark rfl (Nat.le_of_ble_eq_true rfl) (c_X0_mark S.1 ⟨sv_rg _ _, sv_rg _ _, sv_rg _ _, sv_rg _ _⟩  (fun z1 τ1 ζ1 h1 t1 => ?_))
  show LR EX EM b L xs 209 i [.int (zI z1)] _ _ _ _
  refine L_ald dL_law_209 rfl ?_
  refine L_ald dL_law_210 rfl ?_
  refine L_ild dL_law_211 ?_
  refine L_con dL_law_212 ?_
  refine L_add dL_law_213 ?_
  refine L_sld (by omega) hL31 dL_law_214 ?_
  refine L_ald dL_law_215 rfl ?_
  refine L_ild dL_law_216 ?_
  refine L_con dL_law_217 ?_
  refine L_add dL_law_218 ?_
  refine L_sld (by omega) hL31 dL_law_219 ?_
  refine L_ald dL_law_220 rfl ?_
  refine L_ild dL_law_221 ?_
  refine L_con dL_law_222 ?_
  refine L_add dL_law_223 ?_
  refine L_sld (by omega) hL31 dL_law_224 ?_
  refine L_ald dL_law_225 rfl ?_
  refine L_ild dL_law_226 ?_
  refine L_con dL_law_227 ?_
  refine L_add dL_law_228 ?_
  refine L_sld (by omega) hL31 dL_law_229 ?_
  refine L_callM4 (k2 := kX1_mark) hl dL_law_230 gL_law_X1_mark kkX1_mark rfl (Nat.le_of_ble_eq_true rfl) (c_X1_mark S.2.1 ⟨sv_rg _ _, sv_rg _ _, sv_rg _ _, sv_rg _ _⟩  (fun z2 τ2 ζ2 h2 t2 => ?_))
  show LR EX EM b L xs 233 i [.int (zI z2), .int (zI z1)] _ _ _ _
  have hs := sim_mark S (sv xs (i + 1)) (sv xs (i + 2)) (sv xs (i + 3)) (sv xs (i + 4)) 
  refine L_same (tgt := 1113) (by rw [h1, h2]; exact hs.1.symm) dL_law_233 (by decide) ?_
  rw [t1, t2]
  exact next _ _ _ _ hs.2
set_option maxHeartbeats 4000000 in
set_option maxRecDepth 100000 in
theorem law_case2 {EX EM : Ev} {b L : Nat} {xs : Nat → Int32} {i : Int} {x zx y zy : Sf} (hl : EM.1 = EX.1) (hL31 : L < 2147483648) (hi : 0 ≤ i ∧ i + 6 ≤ L) (S : Sim x y) (next : ∀ x' zx' y' zy' : Sf, Sim x' y' → LR EX EM b L xs 1113 i [] x' zx' y' zy') : LR EX EM b L xs 238 i [] x zx y zy := by
  refine L_ald dL_law_238 rfl ?_
  refine L_ald dL_law_239 rfl ?_
  refine L_ild dL_law_240 ?_
  refine L_con dL_law_241 ?_
  refine L_add dL_law_242 ?_
  refine L_sld (by omega) hL31 dL_law_243 ?_
  refine L_ald dL_law_244 rfl ?_
  refine L_ild dL_law_245 ?_
  refine L_con dL_law_246 ?_
  refine L_add dL_law_247 ?_
  refine L_sld (by omega) hL31 dL_law_248 ?_
  refine L_ald dL_law_249 rfl ?_
  refine L_ild dL_law_250 ?_
  refine L_con dL_law_251 ?_
  refine L_add dL_law_252 ?_
  refine L_sld (by omega) hL31 dL_law_253 ?_
  refine L_ald dL_law_254 rfl ?_
  refine L_ild dL_law_255 ?_
  refine L_con dL_law_256 ?_
  refine L_add dL_law_257 ?_
  refine L_sld (by omega) hL31 dL_law_258 ?_
  refine L_bool (pc2 := 267) (sv_rg _ _) dL_law_259 dL_law_262 dL_law_263 dL_law_266 (by decide) (by decide) rfl ?_
  refine L_callX4 (k2 := kX0_yes) dL_law_267 gL_law_X0_yes kkX0_yes rfl (Nat.le_of_ble_eq_true rfl) (c_X0_yes S.1 ⟨sv_rg _ _, sv_rg _ _, sv_rg _ _⟩ (bz_01 _) (fun z1 τ1 ζ1 h1 t1 => ?_))
  show LR EX EM b L xs 270 i [.int (zI z1)] _ _ _ _
  refine L_ald dL_law_270 rfl ?_
  refine L_ald dL_law_271 rfl ?_
  refine L_ild dL_law_272 ?_
  refine L_con dL_law_273 ?_
  refine L_add dL_law_274 ?_
  refine L_sld (by omega) hL31 dL_law_275 ?_
  refine L_ald dL_law_276 rfl ?_
  refine L_ild dL_law_277 ?_
  refine L_con dL_law_278 ?_
  refine L_add dL_law_279 ?_
  refine L_sld (by omega) hL31 dL_law_280 ?_
  refine L_ald dL_law_281 rfl ?_
  refine L_ild dL_law_282 ?_
  refine L_con dL_law_283 ?_
  refine L_add dL_law_284 ?_
  refine L_sld (by omega) hL31 dL_law_285 ?_
  refine L_ald dL_law_286 rfl ?_
  refine L_ild dL_law_287 ?_
  refine L_con dL_law_288 ?_
  refine L_add dL_law_289 ?_
  refine L_sld (by omega) hL31 dL_law_290 ?_
  refine L_bool (pc2 := 299) (sv_rg _ _) dL_law_291 dL_law_294 dL_law_295 dL_law_298 (by decide) (by decide) rfl ?_
  refine L_callM4 (k2 := kX1_yes) hl dL_law_299 gL_law_X1_yes kkX1_yes rfl (Nat.le_of_ble_eq_true rfl) (c_X1_yes S.2.1 ⟨sv_rg _ _, sv_rg _ _, sv_rg _ _⟩ (bz_01 _) (fun z2 τ2 ζ2 h2 t2 => ?_))
  show LR EX EM b L xs 302 i [.int (zI z2), .int (zI z1)] _ _ _ _
  have hs := sim_yes S (sv xs (i + 1)) (sv xs (i + 2)) (sv xs (i + 3)) (bz (sv xs (i + 4))) (bz_01 _)
  refine L_same (tgt := 1113) (by rw [h1, h2]; exact hs.1.symm) dL_law_302 (by decide) ?_
  rw [t1, t2]
  exact next _ _ _ _ hs.2
set_option maxHeartbeats 4000000 in
set_option maxRecDepth 100000 in
theorem law_case3 {EX EM : Ev} {b L : Nat} {xs : Nat → Int32} {i : Int} {x zx y zy : Sf} (hl : EM.1 = EX.1) (hL31 : L < 2147483648) (hi : 0 ≤ i ∧ i + 6 ≤ L) (S : Sim x y) (next : ∀ x' zx' y' zy' : Sf, Sim x' y' → LR EX EM b L xs 1113 i [] x' zx' y' zy') : LR EX EM b L xs 307 i [] x zx y zy := by
  refine L_ald dL_law_307 rfl ?_
  refine L_ald dL_law_308 rfl ?_
  refine L_ild dL_law_309 ?_
  refine L_con dL_law_310 ?_
  refine L_add dL_law_311 ?_
  refine L_sld (by omega) hL31 dL_law_312 ?_
  refine L_ald dL_law_313 rfl ?_
  refine L_ild dL_law_314 ?_
  refine L_con dL_law_315 ?_
  refine L_add dL_law_316 ?_
  refine L_sld (by omega) hL31 dL_law_317 ?_
  refine L_ald dL_law_318 rfl ?_
  refine L_ild dL_law_319 ?_
  refine L_con dL_law_320 ?_
  refine L_add dL_law_321 ?_
  refine L_sld (by omega) hL31 dL_law_322 ?_
  refine L_bool (pc2 := 331) (sv_rg _ _) dL_law_323 dL_law_326 dL_law_327 dL_law_330 (by decide) (by decide) rfl ?_
  refine L_callX3 (k2 := kX0_pupil) dL_law_331 gL_law_X0_pupil kkX0_pupil rfl (Nat.le_of_ble_eq_true rfl) (c_X0_pupil S.1 ⟨sv_rg _ _, sv_rg _ _⟩ (bz_01 _) (fun z1 τ1 ζ1 h1 t1 => ?_))
  show LR EX EM b L xs 334 i [.int (zI z1)] _ _ _ _
  refine L_ald dL_law_334 rfl ?_
  refine L_ald dL_law_335 rfl ?_
  refine L_ild dL_law_336 ?_
  refine L_con dL_law_337 ?_
  refine L_add dL_law_338 ?_
  refine L_sld (by omega) hL31 dL_law_339 ?_
  refine L_ald dL_law_340 rfl ?_
  refine L_ild dL_law_341 ?_
  refine L_con dL_law_342 ?_
  refine L_add dL_law_343 ?_
  refine L_sld (by omega) hL31 dL_law_344 ?_
  refine L_ald dL_law_345 rfl ?_
  refine L_ild dL_law_346 ?_
  refine L_con dL_law_347 ?_
  refine L_add dL_law_348 ?_
  refine L_sld (by omega) hL31 dL_law_349 ?_
  refine L_bool (pc2 := 358) (sv_rg _ _) dL_law_350 dL_law_353 dL_law_354 dL_law_357 (by decide) (by decide) rfl ?_
  refine L_callM3 (k2 := kX1_pupil) hl dL_law_358 gL_law_X1_pupil kkX1_pupil rfl (Nat.le_of_ble_eq_true rfl) (c_X1_pupil S.2.1 ⟨sv_rg _ _, sv_rg _ _⟩ (bz_01 _) (fun z2 τ2 ζ2 h2 t2 => ?_))
  show LR EX EM b L xs 361 i [.int (zI z2), .int (zI z1)] _ _ _ _
  have hs := sim_pupil S (sv xs (i + 1)) (sv xs (i + 2)) (bz (sv xs (i + 3))) (bz_01 _)
  refine L_same (tgt := 1113) (by rw [h1, h2]; exact hs.1.symm) dL_law_361 (by decide) ?_
  rw [t1, t2]
  exact next _ _ _ _ hs.2
set_option maxHeartbeats 4000000 in
set_option maxRecDepth 100000 in
theorem law_case4 {EX EM : Ev} {b L : Nat} {xs : Nat → Int32} {i : Int} {x zx y zy : Sf} (hl : EM.1 = EX.1) (hL31 : L < 2147483648) (hi : 0 ≤ i ∧ i + 6 ≤ L) (S : Sim x y) (next : ∀ x' zx' y' zy' : Sf, Sim x' y' → LR EX EM b L xs 1113 i [] x' zx' y' zy') : LR EX EM b L xs 366 i [] x zx y zy := by
  refine L_ald dL_law_366 rfl ?_
  refine L_ald dL_law_367 rfl ?_
  refine L_ild dL_law_368 ?_
  refine L_con dL_law_369 ?_
  refine L_add dL_law_370 ?_
  refine L_sld (by omega) hL31 dL_law_371 ?_
  refine L_ald dL_law_372 rfl ?_
  refine L_ild dL_law_373 ?_
  refine L_con dL_law_374 ?_
  refine L_add dL_law_375 ?_
  refine L_sld (by omega) hL31 dL_law_376 ?_
  refine L_callX2 (k2 := kX0_rule) dL_law_377 gL_law_X0_rule kkX0_rule rfl (Nat.le_of_ble_eq_true rfl) (c_X0_rule S.1 ⟨sv_rg _ _, sv_rg _ _⟩  (fun z1 τ1 ζ1 h1 t1 => ?_))
  show LR EX EM b L xs 380 i [.int (zI z1)] _ _ _ _
  refine L_ald dL_law_380 rfl ?_
  refine L_ald dL_law_381 rfl ?_
  refine L_ild dL_law_382 ?_
  refine L_con dL_law_383 ?_
  refine L_add dL_law_384 ?_
  refine L_sld (by omega) hL31 dL_law_385 ?_
  refine L_ald dL_law_386 rfl ?_
  refine L_ild dL_law_387 ?_
  refine L_con dL_law_388 ?_
  refine L_add dL_law_389 ?_
  refine L_sld (by omega) hL31 dL_law_390 ?_
  refine L_callM2 (k2 := kX1_rule) hl dL_law_391 gL_law_X1_rule kkX1_rule rfl (Nat.le_of_ble_eq_true rfl) (c_X1_rule S.2.1 ⟨sv_rg _ _, sv_rg _ _⟩  (fun z2 τ2 ζ2 h2 t2 => ?_))
  show LR EX EM b L xs 394 i [.int (zI z2), .int (zI z1)] _ _ _ _
  have hs := sim_rule S (sv xs (i + 1)) (sv xs (i + 2)) 
  refine L_same (tgt := 1113) (by rw [h1, h2]; exact hs.1.symm) dL_law_394 (by decide) ?_
  rw [t1, t2]
  exact next _ _ _ _ hs.2
set_option maxHeartbeats 4000000 in
set_option maxRecDepth 100000 in
theorem law_case5 {EX EM : Ev} {b L : Nat} {xs : Nat → Int32} {i : Int} {x zx y zy : Sf} (hl : EM.1 = EX.1) (hL31 : L < 2147483648) (hi : 0 ≤ i ∧ i + 6 ≤ L) (S : Sim x y) (next : ∀ x' zx' y' zy' : Sf, Sim x' y' → LR EX EM b L xs 1113 i [] x' zx' y' zy') : LR EX EM b L xs 399 i [] x zx y zy := by
  refine L_ald dL_law_399 rfl ?_
  refine L_ald dL_law_400 rfl ?_
  refine L_ild dL_law_401 ?_
  refine L_con dL_law_402 ?_
  refine L_add dL_law_403 ?_
  refine L_sld (by omega) hL31 dL_law_404 ?_
  refine L_ald dL_law_405 rfl ?_
  refine L_ild dL_law_406 ?_
  refine L_con dL_law_407 ?_
  refine L_add dL_law_408 ?_
  refine L_sld (by omega) hL31 dL_law_409 ?_
  refine L_ald dL_law_410 rfl ?_
  refine L_ild dL_law_411 ?_
  refine L_con dL_law_412 ?_
  refine L_add dL_law_413 ?_
  refine L_sld (by omega) hL31 dL_law_414 ?_
  refine L_callX3 (k2 := kX0_score) dL_law_415 gL_law_X0_score kkX0_score rfl (Nat.le_of_ble_eq_true rfl) (c_X0_score S.1 ⟨sv_rg _ _, sv_rg _ _, sv_rg _ _⟩ (fun z1 ζ1 h1 => ?_))
  show LR EX EM b L xs 418 i [.int (zI z1)] _ _ _ _
  refine L_ald dL_law_418 rfl ?_
  refine L_ald dL_law_419 rfl ?_
  refine L_ild dL_law_420 ?_
  refine L_con dL_law_421 ?_
  refine L_add dL_law_422 ?_
  refine L_sld (by omega) hL31 dL_law_423 ?_
  refine L_ald dL_law_424 rfl ?_
  refine L_ild dL_law_425 ?_
  refine L_con dL_law_426 ?_
  refine L_add dL_law_427 ?_
  refine L_sld (by omega) hL31 dL_law_428 ?_
  refine L_ald dL_law_429 rfl ?_
  refine L_ild dL_law_430 ?_
  refine L_con dL_law_431 ?_
  refine L_add dL_law_432 ?_
  refine L_sld (by omega) hL31 dL_law_433 ?_
  refine L_callM3 (k2 := kX1_score) hl dL_law_434 gL_law_X1_score kkX1_score rfl (Nat.le_of_ble_eq_true rfl) (c_X1_score S.2.1 ⟨sv_rg _ _, sv_rg _ _, sv_rg _ _⟩ (fun z2 ζ2 h2 => ?_))
  show LR EX EM b L xs 437 i [.int (zI z2), .int (zI z1)] _ _ _ _
  refine L_same (tgt := 1113) (by rw [h1, h2]; exact (sim_score S (sv xs (i + 1)) (sv xs (i + 2)) (sv xs (i + 3))).symm) dL_law_437 (by decide) ?_
  exact next _ _ _ _ S
set_option maxHeartbeats 4000000 in
set_option maxRecDepth 100000 in
theorem law_case6 {EX EM : Ev} {b L : Nat} {xs : Nat → Int32} {i : Int} {x zx y zy : Sf} (hl : EM.1 = EX.1) (hL31 : L < 2147483648) (hi : 0 ≤ i ∧ i + 6 ≤ L) (S : Sim x y) (next : ∀ x' zx' y' zy' : Sf, Sim x' y' → LR EX EM b L xs 1113 i [] x' zx' y' zy') : LR EX EM b L xs 442 i [] x zx y zy := by
  refine L_ald dL_law_442 rfl ?_
  refine L_ald dL_law_443 rfl ?_
  refine L_ild dL_law_444 ?_
  refine L_con dL_law_445 ?_
  refine L_add dL_law_446 ?_
  refine L_sld (by omega) hL31 dL_law_447 ?_
  refine L_ald dL_law_448 rfl ?_
  refine L_ild dL_law_449 ?_
  refine L_con dL_law_450 ?_
  refine L_add dL_law_451 ?_
  refine L_sld (by omega) hL31 dL_law_452 ?_
  refine L_ald dL_law_453 rfl ?_
  refine L_ild dL_law_454 ?_
  refine L_con dL_law_455 ?_
  refine L_add dL_law_456 ?_
  refine L_sld (by omega) hL31 dL_law_457 ?_
  refine L_callX3 (k2 := kX0_beats) dL_law_458 gL_law_X0_beats kkX0_beats rfl (Nat.le_of_ble_eq_true rfl) (c_X0_beats S.1 ⟨sv_rg _ _, sv_rg _ _, sv_rg _ _⟩ (fun z1 ζ1 h1 => ?_))
  show LR EX EM b L xs 461 i [.int (zI z1)] _ _ _ _
  refine L_ald dL_law_461 rfl ?_
  refine L_ald dL_law_462 rfl ?_
  refine L_ild dL_law_463 ?_
  refine L_con dL_law_464 ?_
  refine L_add dL_law_465 ?_
  refine L_sld (by omega) hL31 dL_law_466 ?_
  refine L_ald dL_law_467 rfl ?_
  refine L_ild dL_law_468 ?_
  refine L_con dL_law_469 ?_
  refine L_add dL_law_470 ?_
  refine L_sld (by omega) hL31 dL_law_471 ?_
  refine L_ald dL_law_472 rfl ?_
  refine L_ild dL_law_473 ?_
  refine L_con dL_law_474 ?_
  refine L_add dL_law_475 ?_
  refine L_sld (by omega) hL31 dL_law_476 ?_
  refine L_callM3 (k2 := kX1_beats) hl dL_law_477 gL_law_X1_beats kkX1_beats rfl (Nat.le_of_ble_eq_true rfl) (c_X1_beats S.2.1 ⟨sv_rg _ _, sv_rg _ _, sv_rg _ _⟩ (fun z2 ζ2 h2 => ?_))
  show LR EX EM b L xs 480 i [.int (zI z2), .int (zI z1)] _ _ _ _
  refine L_same (tgt := 1113) (by rw [h1, h2]; exact (sim_beats S (sv xs (i + 1)) (sv xs (i + 2)) (sv xs (i + 3))).symm) dL_law_480 (by decide) ?_
  exact next _ _ _ _ S
set_option maxHeartbeats 4000000 in
set_option maxRecDepth 100000 in
theorem law_case7 {EX EM : Ev} {b L : Nat} {xs : Nat → Int32} {i : Int} {x zx y zy : Sf} (hl : EM.1 = EX.1) (hL31 : L < 2147483648) (hi : 0 ≤ i ∧ i + 6 ≤ L) (S : Sim x y) (next : ∀ x' zx' y' zy' : Sf, Sim x' y' → LR EX EM b L xs 1113 i [] x' zx' y' zy') : LR EX EM b L xs 485 i [] x zx y zy := by
  refine L_ald dL_law_485 rfl ?_
  refine L_ald dL_law_486 rfl ?_
  refine L_ild dL_law_487 ?_
  refine L_con dL_law_488 ?_
  refine L_add dL_law_489 ?_
  refine L_sld (by omega) hL31 dL_law_490 ?_
  refine L_ald dL_law_491 rfl ?_
  refine L_ild dL_law_492 ?_
  refine L_con dL_law_493 ?_
  refine L_add dL_law_494 ?_
  refine L_sld (by omega) hL31 dL_law_495 ?_
  refine L_ald dL_law_496 rfl ?_
  refine L_ild dL_law_497 ?_
  refine L_con dL_law_498 ?_
  refine L_add dL_law_499 ?_
  refine L_sld (by omega) hL31 dL_law_500 ?_
  refine L_callX3 (k2 := kX0_place) dL_law_501 gL_law_X0_place kkX0_place rfl (Nat.le_of_ble_eq_true rfl) (c_X0_place S.1 ⟨sv_rg _ _, sv_rg _ _, sv_rg _ _⟩ (fun z1 ζ1 h1 => ?_))
  show LR EX EM b L xs 504 i [.int (zI z1)] _ _ _ _
  refine L_ald dL_law_504 rfl ?_
  refine L_ald dL_law_505 rfl ?_
  refine L_ild dL_law_506 ?_
  refine L_con dL_law_507 ?_
  refine L_add dL_law_508 ?_
  refine L_sld (by omega) hL31 dL_law_509 ?_
  refine L_ald dL_law_510 rfl ?_
  refine L_ild dL_law_511 ?_
  refine L_con dL_law_512 ?_
  refine L_add dL_law_513 ?_
  refine L_sld (by omega) hL31 dL_law_514 ?_
  refine L_ald dL_law_515 rfl ?_
  refine L_ild dL_law_516 ?_
  refine L_con dL_law_517 ?_
  refine L_add dL_law_518 ?_
  refine L_sld (by omega) hL31 dL_law_519 ?_
  refine L_callM3 (k2 := kX1_place) hl dL_law_520 gL_law_X1_place kkX1_place rfl (Nat.le_of_ble_eq_true rfl) (c_X1_place S.2.1 ⟨sv_rg _ _, sv_rg _ _, sv_rg _ _⟩ (fun z2 ζ2 h2 => ?_))
  show LR EX EM b L xs 523 i [.int (zI z2), .int (zI z1)] _ _ _ _
  refine L_same (tgt := 1113) (by rw [h1, h2]; exact (sim_place S (sv xs (i + 1)) (sv xs (i + 2)) (sv xs (i + 3))).symm) dL_law_523 (by decide) ?_
  exact next _ _ _ _ S
set_option maxHeartbeats 4000000 in
set_option maxRecDepth 100000 in
theorem law_case8 {EX EM : Ev} {b L : Nat} {xs : Nat → Int32} {i : Int} {x zx y zy : Sf} (hl : EM.1 = EX.1) (hL31 : L < 2147483648) (hi : 0 ≤ i ∧ i + 6 ≤ L) (S : Sim x y) (next : ∀ x' zx' y' zy' : Sf, Sim x' y' → LR EX EM b L xs 1113 i [] x' zx' y' zy') : LR EX EM b L xs 528 i [] x zx y zy := by
  refine L_ald dL_law_528 rfl ?_
  refine L_ald dL_law_529 rfl ?_
  refine L_ild dL_law_530 ?_
  refine L_con dL_law_531 ?_
  refine L_add dL_law_532 ?_
  refine L_sld (by omega) hL31 dL_law_533 ?_
  refine L_ald dL_law_534 rfl ?_
  refine L_ild dL_law_535 ?_
  refine L_con dL_law_536 ?_
  refine L_add dL_law_537 ?_
  refine L_sld (by omega) hL31 dL_law_538 ?_
  refine L_ald dL_law_539 rfl ?_
  refine L_ild dL_law_540 ?_
  refine L_con dL_law_541 ?_
  refine L_add dL_law_542 ?_
  refine L_sld (by omega) hL31 dL_law_543 ?_
  refine L_callX3 (k2 := kX0_passed) dL_law_544 gL_law_X0_passed kkX0_passed rfl (Nat.le_of_ble_eq_true rfl) (c_X0_passed S.1 ⟨sv_rg _ _, sv_rg _ _, sv_rg _ _⟩ (fun z1 ζ1 h1 => ?_))
  show LR EX EM b L xs 547 i [.int (zI z1)] _ _ _ _
  refine L_ald dL_law_547 rfl ?_
  refine L_ald dL_law_548 rfl ?_
  refine L_ild dL_law_549 ?_
  refine L_con dL_law_550 ?_
  refine L_add dL_law_551 ?_
  refine L_sld (by omega) hL31 dL_law_552 ?_
  refine L_ald dL_law_553 rfl ?_
  refine L_ild dL_law_554 ?_
  refine L_con dL_law_555 ?_
  refine L_add dL_law_556 ?_
  refine L_sld (by omega) hL31 dL_law_557 ?_
  refine L_ald dL_law_558 rfl ?_
  refine L_ild dL_law_559 ?_
  refine L_con dL_law_560 ?_
  refine L_add dL_law_561 ?_
  refine L_sld (by omega) hL31 dL_law_562 ?_
  refine L_callM3 (k2 := kX1_passed) hl dL_law_563 gL_law_X1_passed kkX1_passed rfl (Nat.le_of_ble_eq_true rfl) (c_X1_passed S.2.1 ⟨sv_rg _ _, sv_rg _ _, sv_rg _ _⟩ (fun z2 ζ2 h2 => ?_))
  show LR EX EM b L xs 566 i [.int (zI z2), .int (zI z1)] _ _ _ _
  refine L_same (tgt := 1113) (by rw [h1, h2]; exact (sim_passed S (sv xs (i + 1)) (sv xs (i + 2)) (sv xs (i + 3))).symm) dL_law_566 (by decide) ?_
  exact next _ _ _ _ S
set_option maxHeartbeats 4000000 in
set_option maxRecDepth 100000 in
theorem law_case9 {EX EM : Ev} {b L : Nat} {xs : Nat → Int32} {i : Int} {x zx y zy : Sf} (hl : EM.1 = EX.1) (hL31 : L < 2147483648) (hi : 0 ≤ i ∧ i + 6 ≤ L) (S : Sim x y) (next : ∀ x' zx' y' zy' : Sf, Sim x' y' → LR EX EM b L xs 1113 i [] x' zx' y' zy') : LR EX EM b L xs 571 i [] x zx y zy := by
  refine L_ald dL_law_571 rfl ?_
  refine L_ald dL_law_572 rfl ?_
  refine L_ild dL_law_573 ?_
  refine L_con dL_law_574 ?_
  refine L_add dL_law_575 ?_
  refine L_sld (by omega) hL31 dL_law_576 ?_
  refine L_ald dL_law_577 rfl ?_
  refine L_ild dL_law_578 ?_
  refine L_con dL_law_579 ?_
  refine L_add dL_law_580 ?_
  refine L_sld (by omega) hL31 dL_law_581 ?_
  refine L_ald dL_law_582 rfl ?_
  refine L_ild dL_law_583 ?_
  refine L_con dL_law_584 ?_
  refine L_add dL_law_585 ?_
  refine L_sld (by omega) hL31 dL_law_586 ?_
  refine L_ald dL_law_587 rfl ?_
  refine L_ild dL_law_588 ?_
  refine L_con dL_law_589 ?_
  refine L_add dL_law_590 ?_
  refine L_sld (by omega) hL31 dL_law_591 ?_
  refine L_callX4 (k2 := kX0_differ) dL_law_592 gL_law_X0_differ kkX0_differ rfl (Nat.le_of_ble_eq_true rfl) (c_X0_differ S.1 ⟨sv_rg _ _, sv_rg _ _, sv_rg _ _, sv_rg _ _⟩ (fun z1 ζ1 h1 => ?_))
  show LR EX EM b L xs 595 i [.int (zI z1)] _ _ _ _
  refine L_ald dL_law_595 rfl ?_
  refine L_ald dL_law_596 rfl ?_
  refine L_ild dL_law_597 ?_
  refine L_con dL_law_598 ?_
  refine L_add dL_law_599 ?_
  refine L_sld (by omega) hL31 dL_law_600 ?_
  refine L_ald dL_law_601 rfl ?_
  refine L_ild dL_law_602 ?_
  refine L_con dL_law_603 ?_
  refine L_add dL_law_604 ?_
  refine L_sld (by omega) hL31 dL_law_605 ?_
  refine L_ald dL_law_606 rfl ?_
  refine L_ild dL_law_607 ?_
  refine L_con dL_law_608 ?_
  refine L_add dL_law_609 ?_
  refine L_sld (by omega) hL31 dL_law_610 ?_
  refine L_ald dL_law_611 rfl ?_
  refine L_ild dL_law_612 ?_
  refine L_con dL_law_613 ?_
  refine L_add dL_law_614 ?_
  refine L_sld (by omega) hL31 dL_law_615 ?_
  refine L_callM4 (k2 := kX1_differ) hl dL_law_616 gL_law_X1_differ kkX1_differ rfl (Nat.le_of_ble_eq_true rfl) (c_X1_differ S.2.1 ⟨sv_rg _ _, sv_rg _ _, sv_rg _ _, sv_rg _ _⟩ (fun z2 ζ2 h2 => ?_))
  show LR EX EM b L xs 619 i [.int (zI z2), .int (zI z1)] _ _ _ _
  refine L_same (tgt := 1113) (by rw [h1, h2]; exact (sim_differ S (sv xs (i + 1)) (sv xs (i + 2)) (sv xs (i + 3)) (sv xs (i + 4))).symm) dL_law_619 (by decide) ?_
  exact next _ _ _ _ S
set_option maxHeartbeats 4000000 in
set_option maxRecDepth 100000 in
theorem law_case10 {EX EM : Ev} {b L : Nat} {xs : Nat → Int32} {i : Int} {x zx y zy : Sf} (hl : EM.1 = EX.1) (hL31 : L < 2147483648) (hi : 0 ≤ i ∧ i + 6 ≤ L) (S : Sim x y) (next : ∀ x' zx' y' zy' : Sf, Sim x' y' → LR EX EM b L xs 1113 i [] x' zx' y' zy') : LR EX EM b L xs 624 i [] x zx y zy := by
  refine L_ald dL_law_624 rfl ?_
  refine L_ald dL_law_625 rfl ?_
  refine L_ild dL_law_626 ?_
  refine L_con dL_law_627 ?_
  refine L_add dL_law_628 ?_
  refine L_sld (by omega) hL31 dL_law_629 ?_
  refine L_ald dL_law_630 rfl ?_
  refine L_ild dL_law_631 ?_
  refine L_con dL_law_632 ?_
  refine L_add dL_law_633 ?_
  refine L_sld (by omega) hL31 dL_law_634 ?_
  refine L_ald dL_law_635 rfl ?_
  refine L_ild dL_law_636 ?_
  refine L_con dL_law_637 ?_
  refine L_add dL_law_638 ?_
  refine L_sld (by omega) hL31 dL_law_639 ?_
  refine L_ald dL_law_640 rfl ?_
  refine L_ild dL_law_641 ?_
  refine L_con dL_law_642 ?_
  refine L_add dL_law_643 ?_
  refine L_sld (by omega) hL31 dL_law_644 ?_
  refine L_ald dL_law_645 rfl ?_
  refine L_ild dL_law_646 ?_
  refine L_con dL_law_647 ?_
  refine L_add dL_law_648 ?_
  refine L_sld (by omega) hL31 dL_law_649 ?_
  refine L_callX5 (k2 := kX0_reach) dL_law_650 gL_law_X0_reach kkX0_reach rfl (Nat.le_of_ble_eq_true rfl) (c_X0_reach S.1 ⟨sv_rg _ _, sv_rg _ _, sv_rg _ _, sv_rg _ _, sv_rg _ _⟩ (fun z1 ζ1 h1 => ?_))
  show LR EX EM b L xs 653 i [.int (zI z1)] _ _ _ _
  refine L_ald dL_law_653 rfl ?_
  refine L_ald dL_law_654 rfl ?_
  refine L_ild dL_law_655 ?_
  refine L_con dL_law_656 ?_
  refine L_add dL_law_657 ?_
  refine L_sld (by omega) hL31 dL_law_658 ?_
  refine L_ald dL_law_659 rfl ?_
  refine L_ild dL_law_660 ?_
  refine L_con dL_law_661 ?_
  refine L_add dL_law_662 ?_
  refine L_sld (by omega) hL31 dL_law_663 ?_
  refine L_ald dL_law_664 rfl ?_
  refine L_ild dL_law_665 ?_
  refine L_con dL_law_666 ?_
  refine L_add dL_law_667 ?_
  refine L_sld (by omega) hL31 dL_law_668 ?_
  refine L_ald dL_law_669 rfl ?_
  refine L_ild dL_law_670 ?_
  refine L_con dL_law_671 ?_
  refine L_add dL_law_672 ?_
  refine L_sld (by omega) hL31 dL_law_673 ?_
  refine L_ald dL_law_674 rfl ?_
  refine L_ild dL_law_675 ?_
  refine L_con dL_law_676 ?_
  refine L_add dL_law_677 ?_
  refine L_sld (by omega) hL31 dL_law_678 ?_
  refine L_callM5 (k2 := kX1_reach) hl dL_law_679 gL_law_X1_reach kkX1_reach rfl (Nat.le_of_ble_eq_true rfl) (c_X1_reach S.2.1 ⟨sv_rg _ _, sv_rg _ _, sv_rg _ _, sv_rg _ _, sv_rg _ _⟩ (fun z2 ζ2 h2 => ?_))
  show LR EX EM b L xs 682 i [.int (zI z2), .int (zI z1)] _ _ _ _
  refine L_same (tgt := 1113) (by rw [h1, h2]; exact (sim_reach S (sv xs (i + 1)) (sv xs (i + 2)) (sv xs (i + 3)) (sv xs (i + 4)) (sv xs (i + 5))).symm) dL_law_682 (by decide) ?_
  exact next _ _ _ _ S
set_option maxHeartbeats 4000000 in
set_option maxRecDepth 100000 in
theorem law_case11 {EX EM : Ev} {b L : Nat} {xs : Nat → Int32} {i : Int} {x zx y zy : Sf} (hl : EM.1 = EX.1) (hL31 : L < 2147483648) (hi : 0 ≤ i ∧ i + 6 ≤ L) (S : Sim x y) (next : ∀ x' zx' y' zy' : Sf, Sim x' y' → LR EX EM b L xs 1113 i [] x' zx' y' zy') : LR EX EM b L xs 687 i [] x zx y zy := by
  refine L_ald dL_law_687 rfl ?_
  refine L_ald dL_law_688 rfl ?_
  refine L_ild dL_law_689 ?_
  refine L_con dL_law_690 ?_
  refine L_add dL_law_691 ?_
  refine L_sld (by omega) hL31 dL_law_692 ?_
  refine L_ald dL_law_693 rfl ?_
  refine L_ild dL_law_694 ?_
  refine L_con dL_law_695 ?_
  refine L_add dL_law_696 ?_
  refine L_sld (by omega) hL31 dL_law_697 ?_
  refine L_ald dL_law_698 rfl ?_
  refine L_ild dL_law_699 ?_
  refine L_con dL_law_700 ?_
  refine L_add dL_law_701 ?_
  refine L_sld (by omega) hL31 dL_law_702 ?_
  refine L_ald dL_law_703 rfl ?_
  refine L_ild dL_law_704 ?_
  refine L_con dL_law_705 ?_
  refine L_add dL_law_706 ?_
  refine L_sld (by omega) hL31 dL_law_707 ?_
  refine L_callX4 (k2 := kX0_sway) dL_law_708 gL_law_X0_sway kkX0_sway rfl (Nat.le_of_ble_eq_true rfl) (c_X0_sway S.1 ⟨sv_rg _ _, sv_rg _ _, sv_rg _ _, sv_rg _ _⟩ (fun z1 ζ1 h1 => ?_))
  show LR EX EM b L xs 711 i [.int (zI z1)] _ _ _ _
  refine L_ald dL_law_711 rfl ?_
  refine L_ald dL_law_712 rfl ?_
  refine L_ild dL_law_713 ?_
  refine L_con dL_law_714 ?_
  refine L_add dL_law_715 ?_
  refine L_sld (by omega) hL31 dL_law_716 ?_
  refine L_ald dL_law_717 rfl ?_
  refine L_ild dL_law_718 ?_
  refine L_con dL_law_719 ?_
  refine L_add dL_law_720 ?_
  refine L_sld (by omega) hL31 dL_law_721 ?_
  refine L_ald dL_law_722 rfl ?_
  refine L_ild dL_law_723 ?_
  refine L_con dL_law_724 ?_
  refine L_add dL_law_725 ?_
  refine L_sld (by omega) hL31 dL_law_726 ?_
  refine L_ald dL_law_727 rfl ?_
  refine L_ild dL_law_728 ?_
  refine L_con dL_law_729 ?_
  refine L_add dL_law_730 ?_
  refine L_sld (by omega) hL31 dL_law_731 ?_
  refine L_callM4 (k2 := kX1_sway) hl dL_law_732 gL_law_X1_sway kkX1_sway rfl (Nat.le_of_ble_eq_true rfl) (c_X1_sway S.2.1 ⟨sv_rg _ _, sv_rg _ _, sv_rg _ _, sv_rg _ _⟩ (fun z2 ζ2 h2 => ?_))
  show LR EX EM b L xs 735 i [.int (zI z2), .int (zI z1)] _ _ _ _
  refine L_same (tgt := 1113) (by rw [h1, h2]; exact (sim_sway S (sv xs (i + 1)) (sv xs (i + 2)) (sv xs (i + 3)) (sv xs (i + 4))).symm) dL_law_735 (by decide) ?_
  exact next _ _ _ _ S
set_option maxHeartbeats 4000000 in
set_option maxRecDepth 100000 in
theorem law_case12 {EX EM : Ev} {b L : Nat} {xs : Nat → Int32} {i : Int} {x zx y zy : Sf} (hl : EM.1 = EX.1) (hL31 : L < 2147483648) (hi : 0 ≤ i ∧ i + 6 ≤ L) (S : Sim x y) (next : ∀ x' zx' y' zy' : Sf, Sim x' y' → LR EX EM b L xs 1113 i [] x' zx' y' zy') : LR EX EM b L xs 740 i [] x zx y zy := by
  refine L_ald dL_law_740 rfl ?_
  refine L_ald dL_law_741 rfl ?_
  refine L_ild dL_law_742 ?_
  refine L_con dL_law_743 ?_
  refine L_add dL_law_744 ?_
  refine L_sld (by omega) hL31 dL_law_745 ?_
  refine L_ald dL_law_746 rfl ?_
  refine L_ild dL_law_747 ?_
  refine L_con dL_law_748 ?_
  refine L_add dL_law_749 ?_
  refine L_sld (by omega) hL31 dL_law_750 ?_
  refine L_callX2 (k2 := kX0_weight) dL_law_751 gL_law_X0_weight kkX0_weight rfl (Nat.le_of_ble_eq_true rfl) (c_X0_weight S.1 ⟨sv_rg _ _, sv_rg _ _⟩  (fun z1 τ1 ζ1 h1 t1 => ?_))
  show LR EX EM b L xs 754 i [.int (zI z1)] _ _ _ _
  refine L_ald dL_law_754 rfl ?_
  refine L_ald dL_law_755 rfl ?_
  refine L_ild dL_law_756 ?_
  refine L_con dL_law_757 ?_
  refine L_add dL_law_758 ?_
  refine L_sld (by omega) hL31 dL_law_759 ?_
  refine L_ald dL_law_760 rfl ?_
  refine L_ild dL_law_761 ?_
  refine L_con dL_law_762 ?_
  refine L_add dL_law_763 ?_
  refine L_sld (by omega) hL31 dL_law_764 ?_
  refine L_callM2 (k2 := kX1_weight) hl dL_law_765 gL_law_X1_weight kkX1_weight rfl (Nat.le_of_ble_eq_true rfl) (c_X1_weight S.2.1 ⟨sv_rg _ _, sv_rg _ _⟩  (fun z2 τ2 ζ2 h2 t2 => ?_))
  show LR EX EM b L xs 768 i [.int (zI z2), .int (zI z1)] _ _ _ _
  have hs := sim_weight S (sv xs (i + 1)) (sv xs (i + 2)) 
  refine L_same (tgt := 1113) (by rw [h1, h2]; exact hs.1.symm) dL_law_768 (by decide) ?_
  rw [t1, t2]
  exact next _ _ _ _ hs.2
set_option maxHeartbeats 4000000 in
set_option maxRecDepth 100000 in
theorem law_case13 {EX EM : Ev} {b L : Nat} {xs : Nat → Int32} {i : Int} {x zx y zy : Sf} (hl : EM.1 = EX.1) (hL31 : L < 2147483648) (hi : 0 ≤ i ∧ i + 6 ≤ L) (S : Sim x y) (next : ∀ x' zx' y' zy' : Sf, Sim x' y' → LR EX EM b L xs 1113 i [] x' zx' y' zy') : LR EX EM b L xs 773 i [] x zx y zy := by
  refine L_ald dL_law_773 rfl ?_
  refine L_ald dL_law_774 rfl ?_
  refine L_ild dL_law_775 ?_
  refine L_con dL_law_776 ?_
  refine L_add dL_law_777 ?_
  refine L_sld (by omega) hL31 dL_law_778 ?_
  refine L_callX1 (k2 := kX0_total) dL_law_779 gL_law_X0_total kkX0_total rfl (Nat.le_of_ble_eq_true rfl) (c_X0_total S.1 (sv_rg _ _) (fun z1 ζ1 h1 => ?_))
  show LR EX EM b L xs 782 i [.int (zI z1)] _ _ _ _
  refine L_ald dL_law_782 rfl ?_
  refine L_ald dL_law_783 rfl ?_
  refine L_ild dL_law_784 ?_
  refine L_con dL_law_785 ?_
  refine L_add dL_law_786 ?_
  refine L_sld (by omega) hL31 dL_law_787 ?_
  refine L_callM1 (k2 := kX1_total) hl dL_law_788 gL_law_X1_total kkX1_total rfl (Nat.le_of_ble_eq_true rfl) (c_X1_total S.2.1 (sv_rg _ _) (fun z2 ζ2 h2 => ?_))
  show LR EX EM b L xs 791 i [.int (zI z2), .int (zI z1)] _ _ _ _
  refine L_same (tgt := 1113) (by rw [h1, h2]; exact (sim_total S (sv xs (i + 1))).symm) dL_law_791 (by decide) ?_
  exact next _ _ _ _ S
set_option maxHeartbeats 4000000 in
set_option maxRecDepth 100000 in
theorem law_case14 {EX EM : Ev} {b L : Nat} {xs : Nat → Int32} {i : Int} {x zx y zy : Sf} (hl : EM.1 = EX.1) (hL31 : L < 2147483648) (hi : 0 ≤ i ∧ i + 6 ≤ L) (S : Sim x y) (next : ∀ x' zx' y' zy' : Sf, Sim x' y' → LR EX EM b L xs 1113 i [] x' zx' y' zy') : LR EX EM b L xs 796 i [] x zx y zy := by
  refine L_ald dL_law_796 rfl ?_
  refine L_ald dL_law_797 rfl ?_
  refine L_ild dL_law_798 ?_
  refine L_con dL_law_799 ?_
  refine L_add dL_law_800 ?_
  refine L_sld (by omega) hL31 dL_law_801 ?_
  refine L_callX1 (k2 := kX0_last) dL_law_802 gL_law_X0_last kkX0_last rfl (Nat.le_of_ble_eq_true rfl) (c_X0_last S.1 (sv_rg _ _) (fun z1 ζ1 h1 => ?_))
  show LR EX EM b L xs 805 i [.int (zI z1)] _ _ _ _
  refine L_ald dL_law_805 rfl ?_
  refine L_ald dL_law_806 rfl ?_
  refine L_ild dL_law_807 ?_
  refine L_con dL_law_808 ?_
  refine L_add dL_law_809 ?_
  refine L_sld (by omega) hL31 dL_law_810 ?_
  refine L_callM1 (k2 := kX1_last) hl dL_law_811 gL_law_X1_last kkX1_last rfl (Nat.le_of_ble_eq_true rfl) (c_X1_last S.2.1 (sv_rg _ _) (fun z2 ζ2 h2 => ?_))
  show LR EX EM b L xs 814 i [.int (zI z2), .int (zI z1)] _ _ _ _
  refine L_same (tgt := 1113) (by rw [h1, h2]; exact (sim_last S (sv xs (i + 1))).symm) dL_law_814 (by decide) ?_
  exact next _ _ _ _ S
set_option maxHeartbeats 4000000 in
set_option maxRecDepth 100000 in
theorem law_case15 {EX EM : Ev} {b L : Nat} {xs : Nat → Int32} {i : Int} {x zx y zy : Sf} (hl : EM.1 = EX.1) (hL31 : L < 2147483648) (hi : 0 ≤ i ∧ i + 6 ≤ L) (S : Sim x y) (next : ∀ x' zx' y' zy' : Sf, Sim x' y' → LR EX EM b L xs 1113 i [] x' zx' y' zy') : LR EX EM b L xs 819 i [] x zx y zy := by
  refine L_ald dL_law_819 rfl ?_
  refine L_ald dL_law_820 rfl ?_
  refine L_ild dL_law_821 ?_
  refine L_con dL_law_822 ?_
  refine L_add dL_law_823 ?_
  refine L_sld (by omega) hL31 dL_law_824 ?_
  refine L_ald dL_law_825 rfl ?_
  refine L_ild dL_law_826 ?_
  refine L_con dL_law_827 ?_
  refine L_add dL_law_828 ?_
  refine L_sld (by omega) hL31 dL_law_829 ?_
  refine L_callX2 (k2 := kX0_prize) dL_law_830 gL_law_X0_prize kkX0_prize rfl (Nat.le_of_ble_eq_true rfl) (c_X0_prize S.1 ⟨sv_rg _ _, sv_rg _ _⟩  (fun z1 τ1 ζ1 h1 t1 => ?_))
  show LR EX EM b L xs 833 i [.int (zI z1)] _ _ _ _
  refine L_ald dL_law_833 rfl ?_
  refine L_ald dL_law_834 rfl ?_
  refine L_ild dL_law_835 ?_
  refine L_con dL_law_836 ?_
  refine L_add dL_law_837 ?_
  refine L_sld (by omega) hL31 dL_law_838 ?_
  refine L_ald dL_law_839 rfl ?_
  refine L_ild dL_law_840 ?_
  refine L_con dL_law_841 ?_
  refine L_add dL_law_842 ?_
  refine L_sld (by omega) hL31 dL_law_843 ?_
  refine L_callM2 (k2 := kX1_prize) hl dL_law_844 gL_law_X1_prize kkX1_prize rfl (Nat.le_of_ble_eq_true rfl) (c_X1_prize S.2.1 ⟨sv_rg _ _, sv_rg _ _⟩  (fun z2 τ2 ζ2 h2 t2 => ?_))
  show LR EX EM b L xs 847 i [.int (zI z2), .int (zI z1)] _ _ _ _
  have hs := sim_prize S (sv xs (i + 1)) (sv xs (i + 2)) 
  refine L_same (tgt := 1113) (by rw [h1, h2]; exact hs.1.symm) dL_law_847 (by decide) ?_
  rw [t1, t2]
  exact next _ _ _ _ hs.2
set_option maxHeartbeats 4000000 in
set_option maxRecDepth 100000 in
theorem law_case16 {EX EM : Ev} {b L : Nat} {xs : Nat → Int32} {i : Int} {x zx y zy : Sf} (hl : EM.1 = EX.1) (hL31 : L < 2147483648) (hi : 0 ≤ i ∧ i + 6 ≤ L) (S : Sim x y) (next : ∀ x' zx' y' zy' : Sf, Sim x' y' → LR EX EM b L xs 1113 i [] x' zx' y' zy') : LR EX EM b L xs 852 i [] x zx y zy := by
  refine L_ald dL_law_852 rfl ?_
  refine L_ald dL_law_853 rfl ?_
  refine L_ild dL_law_854 ?_
  refine L_con dL_law_855 ?_
  refine L_add dL_law_856 ?_
  refine L_sld (by omega) hL31 dL_law_857 ?_
  refine L_callX1 (k2 := kX0_wins) dL_law_858 gL_law_X0_wins kkX0_wins rfl (Nat.le_of_ble_eq_true rfl) (c_X0_wins S.1 (sv_rg _ _) (fun z1 ζ1 h1 => ?_))
  show LR EX EM b L xs 861 i [.int (zI z1)] _ _ _ _
  refine L_ald dL_law_861 rfl ?_
  refine L_ald dL_law_862 rfl ?_
  refine L_ild dL_law_863 ?_
  refine L_con dL_law_864 ?_
  refine L_add dL_law_865 ?_
  refine L_sld (by omega) hL31 dL_law_866 ?_
  refine L_callM1 (k2 := kX1_wins) hl dL_law_867 gL_law_X1_wins kkX1_wins rfl (Nat.le_of_ble_eq_true rfl) (c_X1_wins S.2.1 (sv_rg _ _) (fun z2 ζ2 h2 => ?_))
  show LR EX EM b L xs 870 i [.int (zI z2), .int (zI z1)] _ _ _ _
  refine L_same (tgt := 1113) (by rw [h1, h2]; exact (sim_wins S (sv xs (i + 1))).symm) dL_law_870 (by decide) ?_
  exact next _ _ _ _ S
set_option maxHeartbeats 4000000 in
set_option maxRecDepth 100000 in
theorem law_case17 {EX EM : Ev} {b L : Nat} {xs : Nat → Int32} {i : Int} {x zx y zy : Sf} (hl : EM.1 = EX.1) (hL31 : L < 2147483648) (hi : 0 ≤ i ∧ i + 6 ≤ L) (S : Sim x y) (next : ∀ x' zx' y' zy' : Sf, Sim x' y' → LR EX EM b L xs 1113 i [] x' zx' y' zy') : LR EX EM b L xs 875 i [] x zx y zy := by
  refine L_ald dL_law_875 rfl ?_
  refine L_callX0 (k2 := kX0_rest) dL_law_876 gL_law_X0_rest kkX0_rest rfl (Nat.le_of_ble_eq_true rfl) (c_X0_rest S.1 (fun z1 ζ1 h1 => ?_))
  show LR EX EM b L xs 879 i [.int (zI z1)] _ _ _ _
  refine L_ald dL_law_879 rfl ?_
  refine L_callM0 (k2 := kX1_rest) hl dL_law_880 gL_law_X1_rest kkX1_rest rfl (Nat.le_of_ble_eq_true rfl) (c_X1_rest S.2.1 (fun z2 ζ2 h2 => ?_))
  show LR EX EM b L xs 883 i [.int (zI z2), .int (zI z1)] _ _ _ _
  refine L_same (tgt := 1113) (by rw [h1, h2]; exact (sim_rest S ).symm) dL_law_883 (by decide) ?_
  exact next _ _ _ _ S
set_option maxHeartbeats 4000000 in
set_option maxRecDepth 100000 in
theorem law_case18 {EX EM : Ev} {b L : Nat} {xs : Nat → Int32} {i : Int} {x zx y zy : Sf} (hl : EM.1 = EX.1) (hL31 : L < 2147483648) (hi : 0 ≤ i ∧ i + 6 ≤ L) (S : Sim x y) (next : ∀ x' zx' y' zy' : Sf, Sim x' y' → LR EX EM b L xs 1113 i [] x' zx' y' zy') : LR EX EM b L xs 888 i [] x zx y zy := by
  refine L_ald dL_law_888 rfl ?_
  refine L_ald dL_law_889 rfl ?_
  refine L_ild dL_law_890 ?_
  refine L_con dL_law_891 ?_
  refine L_add dL_law_892 ?_
  refine L_sld (by omega) hL31 dL_law_893 ?_
  refine L_ald dL_law_894 rfl ?_
  refine L_ild dL_law_895 ?_
  refine L_con dL_law_896 ?_
  refine L_add dL_law_897 ?_
  refine L_sld (by omega) hL31 dL_law_898 ?_
  refine L_callX2 (k2 := kX0_work) dL_law_899 gL_law_X0_work kkX0_work rfl (Nat.le_of_ble_eq_true rfl) (c_X0_work S.1 ⟨sv_rg _ _, sv_rg _ _⟩  (fun z1 τ1 ζ1 h1 t1 => ?_))
  show LR EX EM b L xs 902 i [.int (zI z1)] _ _ _ _
  refine L_ald dL_law_902 rfl ?_
  refine L_ald dL_law_903 rfl ?_
  refine L_ild dL_law_904 ?_
  refine L_con dL_law_905 ?_
  refine L_add dL_law_906 ?_
  refine L_sld (by omega) hL31 dL_law_907 ?_
  refine L_ald dL_law_908 rfl ?_
  refine L_ild dL_law_909 ?_
  refine L_con dL_law_910 ?_
  refine L_add dL_law_911 ?_
  refine L_sld (by omega) hL31 dL_law_912 ?_
  refine L_callM2 (k2 := kX1_work) hl dL_law_913 gL_law_X1_work kkX1_work rfl (Nat.le_of_ble_eq_true rfl) (c_X1_work S.2.1 ⟨sv_rg _ _, sv_rg _ _⟩  (fun z2 τ2 ζ2 h2 t2 => ?_))
  show LR EX EM b L xs 916 i [.int (zI z2), .int (zI z1)] _ _ _ _
  have hs := sim_work S (sv xs (i + 1)) (sv xs (i + 2)) 
  refine L_same (tgt := 1113) (by rw [h1, h2]; exact hs.1.symm) dL_law_916 (by decide) ?_
  rw [t1, t2]
  exact next _ _ _ _ hs.2
set_option maxHeartbeats 4000000 in
set_option maxRecDepth 100000 in
theorem law_case19 {EX EM : Ev} {b L : Nat} {xs : Nat → Int32} {i : Int} {x zx y zy : Sf} (hl : EM.1 = EX.1) (hL31 : L < 2147483648) (hi : 0 ≤ i ∧ i + 6 ≤ L) (S : Sim x y) (next : ∀ x' zx' y' zy' : Sf, Sim x' y' → LR EX EM b L xs 1113 i [] x' zx' y' zy') : LR EX EM b L xs 921 i [] x zx y zy := by
  refine L_ald dL_law_921 rfl ?_
  refine L_ald dL_law_922 rfl ?_
  refine L_ild dL_law_923 ?_
  refine L_con dL_law_924 ?_
  refine L_add dL_law_925 ?_
  refine L_sld (by omega) hL31 dL_law_926 ?_
  refine L_ald dL_law_927 rfl ?_
  refine L_ild dL_law_928 ?_
  refine L_con dL_law_929 ?_
  refine L_add dL_law_930 ?_
  refine L_sld (by omega) hL31 dL_law_931 ?_
  refine L_callX2 (k2 := kX0_programme) dL_law_932 gL_law_X0_programme kkX0_programme rfl (Nat.le_of_ble_eq_true rfl) (c_X0_programme S.1 ⟨sv_rg _ _, sv_rg _ _⟩  (fun z1 τ1 ζ1 h1 t1 => ?_))
  show LR EX EM b L xs 935 i [.int (zI z1)] _ _ _ _
  refine L_ald dL_law_935 rfl ?_
  refine L_ald dL_law_936 rfl ?_
  refine L_ild dL_law_937 ?_
  refine L_con dL_law_938 ?_
  refine L_add dL_law_939 ?_
  refine L_sld (by omega) hL31 dL_law_940 ?_
  refine L_ald dL_law_941 rfl ?_
  refine L_ild dL_law_942 ?_
  refine L_con dL_law_943 ?_
  refine L_add dL_law_944 ?_
  refine L_sld (by omega) hL31 dL_law_945 ?_
  refine L_callM2 (k2 := kX1_programme) hl dL_law_946 gL_law_X1_programme kkX1_programme rfl (Nat.le_of_ble_eq_true rfl) (c_X1_programme S.2.1 ⟨sv_rg _ _, sv_rg _ _⟩  (fun z2 τ2 ζ2 h2 t2 => ?_))
  show LR EX EM b L xs 949 i [.int (zI z2), .int (zI z1)] _ _ _ _
  have hs := sim_programme S (sv xs (i + 1)) (sv xs (i + 2)) 
  refine L_same (tgt := 1113) (by rw [h1, h2]; exact hs.1.symm) dL_law_949 (by decide) ?_
  rw [t1, t2]
  exact next _ _ _ _ hs.2
set_option maxHeartbeats 4000000 in
set_option maxRecDepth 100000 in
theorem law_case20 {EX EM : Ev} {b L : Nat} {xs : Nat → Int32} {i : Int} {x zx y zy : Sf} (hl : EM.1 = EX.1) (hL31 : L < 2147483648) (hi : 0 ≤ i ∧ i + 6 ≤ L) (S : Sim x y) (next : ∀ x' zx' y' zy' : Sf, Sim x' y' → LR EX EM b L xs 1113 i [] x' zx' y' zy') : LR EX EM b L xs 954 i [] x zx y zy := by
  refine L_ald dL_law_954 rfl ?_
  refine L_ald dL_law_955 rfl ?_
  refine L_ild dL_law_956 ?_
  refine L_con dL_law_957 ?_
  refine L_add dL_law_958 ?_
  refine L_sld (by omega) hL31 dL_law_959 ?_
  refine L_ald dL_law_960 rfl ?_
  refine L_ild dL_law_961 ?_
  refine L_con dL_law_962 ?_
  refine L_add dL_law_963 ?_
  refine L_sld (by omega) hL31 dL_law_964 ?_
  refine L_ald dL_law_965 rfl ?_
  refine L_ild dL_law_966 ?_
  refine L_con dL_law_967 ?_
  refine L_add dL_law_968 ?_
  refine L_sld (by omega) hL31 dL_law_969 ?_
  refine L_callX3 (k2 := kX0_plan) dL_law_970 gL_law_X0_plan kkX0_plan rfl (Nat.le_of_ble_eq_true rfl) (c_X0_plan S.1 ⟨sv_rg _ _, sv_rg _ _, sv_rg _ _⟩ (fun z1 τ1 ζ1 h1 t1 => ?_))
  show LR EX EM b L xs 973 i [.int (zI z1)] _ _ _ _
  refine L_ald dL_law_973 rfl ?_
  refine L_ald dL_law_974 rfl ?_
  refine L_ild dL_law_975 ?_
  refine L_con dL_law_976 ?_
  refine L_add dL_law_977 ?_
  refine L_sld (by omega) hL31 dL_law_978 ?_
  refine L_ald dL_law_979 rfl ?_
  refine L_ild dL_law_980 ?_
  refine L_con dL_law_981 ?_
  refine L_add dL_law_982 ?_
  refine L_sld (by omega) hL31 dL_law_983 ?_
  refine L_ald dL_law_984 rfl ?_
  refine L_ild dL_law_985 ?_
  refine L_con dL_law_986 ?_
  refine L_add dL_law_987 ?_
  refine L_sld (by omega) hL31 dL_law_988 ?_
  subst h1
  subst t1
  refine L_callM3 (k2 := kX1_plan) hl dL_law_989 gL_law_X1_plan kkX1_plan rfl (Nat.le_of_ble_eq_true rfl) (c_X1_plan S.2.1 ⟨sv_rg _ _, sv_rg _ _, sv_rg _ _⟩ (fun hB => ?_) (fun hB g P Hh hg hP hPb hH => ?_) (fun hB hg P hPb => ?_))
  · show LR EX EM b L xs 992 i [_, .int (zI (fplan x (sv xs (i + 1)) (sv xs (i + 2)) (sv xs (i + 3))))] _ _ _ _
    refine L_same (tgt := 1113) (by unfold fplan; rw [if_pos hB]) dL_law_992 (by decide) ?_
    exact next _ _ _ _ (by unfold tplan; rw [if_pos hB]; exact S)
  · have hg := (sim_pl S (t := (sv xs (i + 3))) (by omega)).symm.trans hg
    show LR EX EM b L xs 992 i [_, .int (zI (fplan x (sv xs (i + 1)) (sv xs (i + 2)) (sv xs (i + 3))))] _ _ _ _
    refine L_same (tgt := 1113) (by unfold fplan; rw [if_neg hB, hg]) dL_law_992 (by decide) ?_
    exact next _ _ _ _ (by unfold tplan; rw [if_neg hB, hg]; exact sim_planS S (by omega) hg hP hPb hH)
  · have hg := (sim_pl S (t := (sv xs (i + 3))) (by omega)).symm.trans hg
    show LR EX EM b L xs 992 i [_, .int (zI (fplan x (sv xs (i + 1)) (sv xs (i + 2)) (sv xs (i + 3))))] _ _ _ _
    refine L_same (tgt := 1113) (by unfold fplan; rw [if_neg hB, hg]) dL_law_992 (by decide) ?_
    exact next _ _ _ _ (by unfold tplan; rw [if_neg hB, hg]; exact sim_planF S hPb)
set_option maxHeartbeats 4000000 in
set_option maxRecDepth 100000 in
theorem law_case21 {EX EM : Ev} {b L : Nat} {xs : Nat → Int32} {i : Int} {x zx y zy : Sf} (hl : EM.1 = EX.1) (hL31 : L < 2147483648) (hi : 0 ≤ i ∧ i + 6 ≤ L) (S : Sim x y) (next : ∀ x' zx' y' zy' : Sf, Sim x' y' → LR EX EM b L xs 1113 i [] x' zx' y' zy') : LR EX EM b L xs 997 i [] x zx y zy := by
  refine L_ald dL_law_997 rfl ?_
  refine L_ald dL_law_998 rfl ?_
  refine L_ild dL_law_999 ?_
  refine L_con dL_law_1000 ?_
  refine L_add dL_law_1001 ?_
  refine L_sld (by omega) hL31 dL_law_1002 ?_
  refine L_callX1 (k2 := kX0_chosen) dL_law_1003 gL_law_X0_chosen kkX0_chosen rfl (Nat.le_of_ble_eq_true rfl) (c_X0_chosen S.1 (sv_rg _ _) (fun z1 ζ1 h1 => ?_))
  show LR EX EM b L xs 1006 i [.int (zI z1)] _ _ _ _
  refine L_ald dL_law_1006 rfl ?_
  refine L_ald dL_law_1007 rfl ?_
  refine L_ild dL_law_1008 ?_
  refine L_con dL_law_1009 ?_
  refine L_add dL_law_1010 ?_
  refine L_sld (by omega) hL31 dL_law_1011 ?_
  refine L_callM1 (k2 := kX1_chosen) hl dL_law_1012 gL_law_X1_chosen kkX1_chosen rfl (Nat.le_of_ble_eq_true rfl) (c_X1_chosen S.2.1 (sv_rg _ _) (fun z2 ζ2 h2 => ?_))
  show LR EX EM b L xs 1015 i [.int (zI z2), .int (zI z1)] _ _ _ _
  refine L_same (tgt := 1113) (by rw [h1, h2]; exact (sim_chosen S (sv xs (i + 1))).symm) dL_law_1015 (by decide) ?_
  exact next _ _ _ _ S
set_option maxHeartbeats 4000000 in
set_option maxRecDepth 100000 in
theorem law_case22 {EX EM : Ev} {b L : Nat} {xs : Nat → Int32} {i : Int} {x zx y zy : Sf} (hl : EM.1 = EX.1) (hL31 : L < 2147483648) (hi : 0 ≤ i ∧ i + 6 ≤ L) (S : Sim x y) (next : ∀ x' zx' y' zy' : Sf, Sim x' y' → LR EX EM b L xs 1113 i [] x' zx' y' zy') : LR EX EM b L xs 1020 i [] x zx y zy := by
  refine L_ald dL_law_1020 rfl ?_
  refine L_ald dL_law_1021 rfl ?_
  refine L_ild dL_law_1022 ?_
  refine L_con dL_law_1023 ?_
  refine L_add dL_law_1024 ?_
  refine L_sld (by omega) hL31 dL_law_1025 ?_
  refine L_callX1 (k2 := kX0_heard) dL_law_1026 gL_law_X0_heard kkX0_heard rfl (Nat.le_of_ble_eq_true rfl) (c_X0_heard S.1 (sv_rg _ _) (fun z1 ζ1 h1 => ?_))
  show LR EX EM b L xs 1029 i [.int (zI z1)] _ _ _ _
  refine L_ald dL_law_1029 rfl ?_
  refine L_ald dL_law_1030 rfl ?_
  refine L_ild dL_law_1031 ?_
  refine L_con dL_law_1032 ?_
  refine L_add dL_law_1033 ?_
  refine L_sld (by omega) hL31 dL_law_1034 ?_
  refine L_callM1 (k2 := kX1_heard) hl dL_law_1035 gL_law_X1_heard kkX1_heard rfl (Nat.le_of_ble_eq_true rfl) (c_X1_heard S.2.1 (sv_rg _ _) (fun z2 ζ2 h2 => ?_))
  show LR EX EM b L xs 1038 i [.int (zI z2), .int (zI z1)] _ _ _ _
  refine L_same (tgt := 1113) (by rw [h1, h2]; exact (sim_heard S (sv xs (i + 1))).symm) dL_law_1038 (by decide) ?_
  exact next _ _ _ _ S
set_option maxHeartbeats 4000000 in
set_option maxRecDepth 100000 in
theorem law_case23 {EX EM : Ev} {b L : Nat} {xs : Nat → Int32} {i : Int} {x zx y zy : Sf} (hl : EM.1 = EX.1) (hL31 : L < 2147483648) (hi : 0 ≤ i ∧ i + 6 ≤ L) (S : Sim x y) (next : ∀ x' zx' y' zy' : Sf, Sim x' y' → LR EX EM b L xs 1113 i [] x' zx' y' zy') : LR EX EM b L xs 1043 i [] x zx y zy := by
  refine L_ald dL_law_1043 rfl ?_
  refine L_ald dL_law_1044 rfl ?_
  refine L_ild dL_law_1045 ?_
  refine L_con dL_law_1046 ?_
  refine L_add dL_law_1047 ?_
  refine L_sld (by omega) hL31 dL_law_1048 ?_
  refine L_ald dL_law_1049 rfl ?_
  refine L_ild dL_law_1050 ?_
  refine L_con dL_law_1051 ?_
  refine L_add dL_law_1052 ?_
  refine L_sld (by omega) hL31 dL_law_1053 ?_
  refine L_callX2 (k2 := kX0_drawn) dL_law_1054 gL_law_X0_drawn kkX0_drawn rfl (Nat.le_of_ble_eq_true rfl) (c_X0_drawn S.1 ⟨sv_rg _ _, sv_rg _ _⟩ (fun z1 ζ1 h1 => ?_))
  show LR EX EM b L xs 1057 i [.int (zI z1)] _ _ _ _
  refine L_ald dL_law_1057 rfl ?_
  refine L_ald dL_law_1058 rfl ?_
  refine L_ild dL_law_1059 ?_
  refine L_con dL_law_1060 ?_
  refine L_add dL_law_1061 ?_
  refine L_sld (by omega) hL31 dL_law_1062 ?_
  refine L_ald dL_law_1063 rfl ?_
  refine L_ild dL_law_1064 ?_
  refine L_con dL_law_1065 ?_
  refine L_add dL_law_1066 ?_
  refine L_sld (by omega) hL31 dL_law_1067 ?_
  refine L_callM2 (k2 := kX1_drawn) hl dL_law_1068 gL_law_X1_drawn kkX1_drawn rfl (Nat.le_of_ble_eq_true rfl) (c_X1_drawn S.2.1 ⟨sv_rg _ _, sv_rg _ _⟩ (fun z2 ζ2 h2 => ?_))
  show LR EX EM b L xs 1071 i [.int (zI z2), .int (zI z1)] _ _ _ _
  refine L_same (tgt := 1113) (by rw [h1, h2]; exact (sim_drawn S (sv xs (i + 1)) (sv xs (i + 2))).symm) dL_law_1071 (by decide) ?_
  exact next _ _ _ _ S
set_option maxHeartbeats 4000000 in
set_option maxRecDepth 100000 in
theorem law_case24 {EX EM : Ev} {b L : Nat} {xs : Nat → Int32} {i : Int} {x zx y zy : Sf} (hl : EM.1 = EX.1) (hL31 : L < 2147483648) (hi : 0 ≤ i ∧ i + 6 ≤ L) (S : Sim x y) (next : ∀ x' zx' y' zy' : Sf, Sim x' y' → LR EX EM b L xs 1113 i [] x' zx' y' zy') : LR EX EM b L xs 1076 i [] x zx y zy := by
  refine L_ald dL_law_1076 rfl ?_
  refine L_ald dL_law_1077 rfl ?_
  refine L_ild dL_law_1078 ?_
  refine L_con dL_law_1079 ?_
  refine L_add dL_law_1080 ?_
  refine L_sld (by omega) hL31 dL_law_1081 ?_
  refine L_callX1 (k2 := kX0_count) dL_law_1082 gL_law_X0_count kkX0_count rfl (Nat.le_of_ble_eq_true rfl) (c_X0_count S.1 (sv_rg _ _) (fun z1 ζ1 h1 => ?_))
  show LR EX EM b L xs 1085 i [.int (zI z1)] _ _ _ _
  refine L_ald dL_law_1085 rfl ?_
  refine L_ald dL_law_1086 rfl ?_
  refine L_ild dL_law_1087 ?_
  refine L_con dL_law_1088 ?_
  refine L_add dL_law_1089 ?_
  refine L_sld (by omega) hL31 dL_law_1090 ?_
  refine L_callM1 (k2 := kX1_count) hl dL_law_1091 gL_law_X1_count kkX1_count rfl (Nat.le_of_ble_eq_true rfl) (c_X1_count S.2.1 (sv_rg _ _) (fun z2 ζ2 h2 => ?_))
  show LR EX EM b L xs 1094 i [.int (zI z2), .int (zI z1)] _ _ _ _
  refine L_same (tgt := 1113) (by rw [h1, h2]; exact (sim_count S (sv xs (i + 1))).symm) dL_law_1094 (by decide) ?_
  exact next _ _ _ _ S
set_option maxHeartbeats 4000000 in
set_option maxRecDepth 100000 in
theorem law_case25 {EX EM : Ev} {b L : Nat} {xs : Nat → Int32} {i : Int} {x zx y zy : Sf} (hl : EM.1 = EX.1) (hL31 : L < 2147483648) (hi : 0 ≤ i ∧ i + 6 ≤ L) (S : Sim x y) (next : ∀ x' zx' y' zy' : Sf, Sim x' y' → LR EX EM b L xs 1113 i [] x' zx' y' zy') : LR EX EM b L xs 1099 i [] x zx y zy := by
  refine L_ald dL_law_1099 rfl ?_
  refine L_callX0 (k2 := kX0_digest) dL_law_1100 gL_law_X0_digest kkX0_digest rfl (Nat.le_of_ble_eq_true rfl) (c_X0_digest S.1 (Sx18 S) (fun z1 ζ1 h1 => ?_))
  show LR EX EM b L xs 1103 i [.long (zL z1)] _ _ _ _
  refine L_ald dL_law_1103 rfl ?_
  refine L_callM0 (k2 := kX1_digest) hl dL_law_1104 gL_law_X1_digest kkX1_digest rfl (Nat.le_of_ble_eq_true rfl) (c_X1_digest S.2.1 (fun z2 ζ2 h2 => ?_))
  show LR EX EM b L xs 1107 i [.long (zL z2), .long (zL z1)] _ _ _ _
  refine L_lcmp (tgt := 1113) (by rw [h1, h2]; exact (sim_digest S).symm) dL_law_1107 dL_law_1108 (by decide) ?_
  exact next _ _ _ _ S

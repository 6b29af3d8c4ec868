section RR
variable {E : Ev} {G : Gd} {k : Mt} {d pc : Nat} {L : List (Option Value)} {st : List Value} {τ ζ : Sf} {Q : Option Value → Sf → Sf → Prop}

theorem R_iload {i : Nat} {x : Int32} (hd : decode k.2.2.1 pc = .ok (.iload i, 2)) (hl : L[i]? = some (some (.int x))) (K : R E G k d (pc + 2) L (.int x :: st) τ ζ Q) : R E G k d pc L st τ ζ Q := by
  intro p e s m args below meth c H locs ls X
  exact lv_iload X.1 X.2.1 hd (X.2.2.2.2.2.2.2.2.2.2.2 i _ hl) (K p e s m args below meth c H locs ls X)
theorem R_iload_n {i : Fin 4} {x : Int32} (hd : decode k.2.2.1 pc = .ok (.iload_n i, 1)) (hl : L[(i : Nat)]? = some (some (.int x))) (K : R E G k d (pc + 1) L (.int x :: st) τ ζ Q) : R E G k d pc L st τ ζ Q := by
  intro p e s m args below meth c H locs ls X
  exact lv_iload_n X.1 X.2.1 hd rfl (X.2.2.2.2.2.2.2.2.2.2.2 i _ hl) (K p e s m args below meth c H locs ls X)
theorem R_lload {i : Nat} {x : Int64} (hd : decode k.2.2.1 pc = .ok (.lload i, 2)) (hl : L[i]? = some (some (.long x))) (K : R E G k d (pc + 2) L (.long x :: st) τ ζ Q) : R E G k d pc L st τ ζ Q := by
  intro p e s m args below meth c H locs ls X
  exact lv_lload X.1 X.2.1 hd (X.2.2.2.2.2.2.2.2.2.2.2 i _ hl) (K p e s m args below meth c H locs ls X)
theorem R_lload_n {i : Fin 4} {x : Int64} (hd : decode k.2.2.1 pc = .ok (.lload_n i, 1)) (hl : L[(i : Nat)]? = some (some (.long x))) (K : R E G k d (pc + 1) L (.long x :: st) τ ζ Q) : R E G k d pc L st τ ζ Q := by
  intro p e s m args below meth c H locs ls X
  exact lv_lload_n X.1 X.2.1 hd rfl (X.2.2.2.2.2.2.2.2.2.2.2 i _ hl) (K p e s m args below meth c H locs ls X)
theorem R_aload {i : Nat} {x : Nat} (hd : decode k.2.2.1 pc = .ok (.aload i, 2)) (hl : L[i]? = some (some (.ref x))) (K : R E G k d (pc + 2) L (.ref x :: st) τ ζ Q) : R E G k d pc L st τ ζ Q := by
  intro p e s m args below meth c H locs ls X
  exact lv_aload X.1 X.2.1 hd (X.2.2.2.2.2.2.2.2.2.2.2 i _ hl) (K p e s m args below meth c H locs ls X)
theorem R_aload_n {i : Fin 4} {x : Nat} (hd : decode k.2.2.1 pc = .ok (.aload_n i, 1)) (hl : L[(i : Nat)]? = some (some (.ref x))) (K : R E G k d (pc + 1) L (.ref x :: st) τ ζ Q) : R E G k d pc L st τ ζ Q := by
  intro p e s m args below meth c H locs ls X
  exact lv_aload_n X.1 X.2.1 hd rfl (X.2.2.2.2.2.2.2.2.2.2.2 i _ hl) (K p e s m args below meth c H locs ls X)
theorem R_istore {i : Nat} {x : Int32} (hd : decode k.2.2.1 pc = .ok (.istore i, 2)) (hn : Nat.blt i k.2.2.2.1 = true) (ho : okS i L = true) (K : R E G k d (pc + 2) (L.set i (some (.int x))) st τ ζ Q) : R E G k d pc L (.int x :: st) τ ζ Q := by
  intro p e s m args below meth c H locs ls X
  exact lv_istore X.1 X.2.1 hd (X.2.2.2.2.2.2.2.2.2.has) (Nat.blt_eq.mp hn) rfl (fun ls' h => K p e s m args below meth c H locs ls' (X.ls' (Lh.set1 h ho)))
theorem R_istore_n {i : Fin 4} {x : Int32} (hd : decode k.2.2.1 pc = .ok (.istore_n i, 1)) (hn : Nat.blt (i : Nat) k.2.2.2.1 = true) (ho : okS (i : Nat) L = true) (K : R E G k d (pc + 1) (L.set (i : Nat) (some (.int x))) st τ ζ Q) : R E G k d pc L (.int x :: st) τ ζ Q := by
  intro p e s m args below meth c H locs ls X
  exact lv_istore_n X.1 X.2.1 hd rfl (X.2.2.2.2.2.2.2.2.2.has) (Nat.blt_eq.mp hn) rfl (fun ls' h => K p e s m args below meth c H locs ls' (X.ls' (Lh.set1 h ho)))
theorem R_lstore {i : Nat} {x : Int64} (hd : decode k.2.2.1 pc = .ok (.lstore i, 2)) (hn : Nat.blt (i + 1) k.2.2.2.1 = true) (ho : okS i L = true) (K : R E G k d (pc + 2) ((L.set i (some (.long x))).set (i + 1) none) st τ ζ Q) : R E G k d pc L (.long x :: st) τ ζ Q := by
  intro p e s m args below meth c H locs ls X
  exact lv_lstore X.1 X.2.1 hd (X.2.2.2.2.2.2.2.2.2.has) (Nat.blt_eq.mp hn) rfl (fun ls' h => K p e s m args below meth c H locs ls' (X.ls' (Lh.set2 h ho)))
theorem R_lstore_n {i : Fin 4} {x : Int64} (hd : decode k.2.2.1 pc = .ok (.lstore_n i, 1)) (hn : Nat.blt ((i : Nat) + 1) k.2.2.2.1 = true) (ho : okS (i : Nat) L = true) (K : R E G k d (pc + 1) ((L.set (i : Nat) (some (.long x))).set ((i : Nat) + 1) none) st τ ζ Q) : R E G k d pc L (.long x :: st) τ ζ Q := by
  intro p e s m args below meth c H locs ls X
  exact lv_lstore_n X.1 X.2.1 hd rfl (X.2.2.2.2.2.2.2.2.2.has) (Nat.blt_eq.mp hn) rfl (fun ls' h => K p e s m args below meth c H locs ls' (X.ls' (Lh.set2 h ho)))
theorem R_iinc {i : Nat} {n z : Int} (hd : decode k.2.2.1 pc = .ok (.iinc i n, 3)) (hl : L[i]? = some (some (.int (zI z)))) (hn : Nat.blt i k.2.2.2.1 = true) (ho : okS i L = true) (K : R E G k d (pc + 3) (L.set i (some (.int (zI (z + n))))) st τ ζ Q) : R E G k d pc L st τ ζ Q := by
  intro p e s m args below meth c H locs ls X
  obtain ⟨q, hq⟩ := List.getElem?_of_mem (asL_mem.mpr hl)
  exact lv_iinc (v := zI (z + n)) X.1 X.2.1 hd (X.2.2.2.2.2.2.2.2.2.has) hq (zI_add z n) (Nat.blt_eq.mp hn) rfl (fun ls' h => K p e s m args below meth c H locs ls' (X.ls' (Lh.set1 h ho)))
theorem R_iconst {n : Int} (hd : decode k.2.2.1 pc = .ok (.iconst n, 1)) (K : R E G k d (pc + 1) L (.int (zI n) :: st) τ ζ Q) : R E G k d pc L st τ ζ Q := by
  intro p e s m args below meth c H locs ls X
  exact lv_iconst X.1 X.2.1 hd rfl (K p e s m args below meth c H locs ls X)
theorem R_bipush {n : Int} (hd : decode k.2.2.1 pc = .ok (.bipush n, 2)) (hv : (Int8.ofInt n).toInt32 = zI n) (K : R E G k d (pc + 2) L (.int (zI n) :: st) τ ζ Q) : R E G k d pc L st τ ζ Q := by
  intro p e s m args below meth c H locs ls X
  exact lv_bipush X.1 X.2.1 hd hv (K p e s m args below meth c H locs ls X)
theorem R_sipush {n : Int} (hd : decode k.2.2.1 pc = .ok (.sipush n, 3)) (hv : (Int16.ofInt n).toInt32 = zI n) (K : R E G k d (pc + 3) L (.int (zI n) :: st) τ ζ Q) : R E G k d pc L st τ ζ Q := by
  intro p e s m args below meth c H locs ls X
  exact lv_sipush X.1 X.2.1 hd hv (K p e s m args below meth c H locs ls X)
theorem R_ldc {i : Nat} {v : Int32} (z : Int) (hd : decode k.2.2.1 pc = .ok (.ldc i, 2)) (hc : Jvm.Cond.constant k.1.cls i v ∈ k.2.1) (hv : v = zI z) (K : R E G k d (pc + 2) L (.int (zI z) :: st) τ ζ Q) : R E G k d pc L st τ ζ Q := by
  subst hv
  intro p e s m args below meth c H locs ls X
  exact lv_ldc X.1 X.2.1 X.2.2.2.2.2.2.1 (X.2.2.2.2.2.1 _ hc) hd (K p e s m args below meth c H locs ls X)
theorem R_lconst {n : Fin 2} (z : Int) (hd : decode k.2.2.1 pc = .ok (.lconst n, 1)) (hv : Int64.ofNat (n : Nat) = zL z) (K : R E G k d (pc + 1) L (.long (zL z) :: st) τ ζ Q) : R E G k d pc L st τ ζ Q := by
  intro p e s m args below meth c H locs ls X
  exact lv_lconst X.1 X.2.1 hd hv (K p e s m args below meth c H locs ls X)
theorem R_ldc2 {i : Nat} {v : Int64} (z : Int) (hd : decode k.2.2.1 pc = .ok (.ldc2_w i, 3)) (hc : Jvm.Cond.constantLong k.1.cls i v ∈ k.2.1) (hv : v = zL z) (K : R E G k d (pc + 3) L (.long (zL z) :: st) τ ζ Q) : R E G k d pc L st τ ζ Q := by
  subst hv
  intro p e s m args below meth c H locs ls X
  exact lv_ldc2 X.1 X.2.1 X.2.2.2.2.2.2.1 (X.2.2.2.2.2.1 _ hc) hd (K p e s m args below meth c H locs ls X)
theorem R_iadd {a b : Int} (hd : decode k.2.2.1 pc = .ok (.iadd, 1)) (K : R E G k d (pc + 1) L (.int (zI (a + b)) :: st) τ ζ Q) : R E G k d pc L (.int (zI b) :: .int (zI a) :: st) τ ζ Q := by
  intro p e s m args below meth c H locs ls X
  refine lv_iadd X.1 X.2.1 hd ?_
  rw [zI_add]
  exact K p e s m args below meth c H locs ls X
theorem R_isub {a b : Int} (hd : decode k.2.2.1 pc = .ok (.isub, 1)) (K : R E G k d (pc + 1) L (.int (zI (a - b)) :: st) τ ζ Q) : R E G k d pc L (.int (zI b) :: .int (zI a) :: st) τ ζ Q := by
  intro p e s m args below meth c H locs ls X
  refine lv_isub X.1 X.2.1 hd ?_
  rw [zI_sub]
  exact K p e s m args below meth c H locs ls X
theorem R_imul {a b : Int} (hd : decode k.2.2.1 pc = .ok (.imul, 1)) (K : R E G k d (pc + 1) L (.int (zI (a * b)) :: st) τ ζ Q) : R E G k d pc L (.int (zI b) :: .int (zI a) :: st) τ ζ Q := by
  intro p e s m args below meth c H locs ls X
  refine lv_imul X.1 X.2.1 hd ?_
  rw [zI_mul]
  exact K p e s m args below meth c H locs ls X
theorem R_idiv {a b : Int} (hr : (0 ≤ a ∧ a < 2147483648) ∧ (0 < b ∧ b < 2147483648)) (hd : decode k.2.2.1 pc = .ok (.idiv, 1)) (K : R E G k d (pc + 1) L (.int (zI (a / b)) :: st) τ ζ Q) : R E G k d pc L (.int (zI b) :: .int (zI a) :: st) τ ζ Q := by
  intro p e s m args below meth c H locs ls X
  refine lv_idiv X.1 X.2.1 hd (fun h => ?_) ?_
  · rw [zI_0, zI_eq (by omega)] at h
    omega
  rw [zI_div hr]
  exact K p e s m args below meth c H locs ls X
theorem R_irem {a b : Int} (hr : (0 ≤ a ∧ a < 2147483648) ∧ (0 < b ∧ b < 2147483648)) (hd : decode k.2.2.1 pc = .ok (.irem, 1)) (K : R E G k d (pc + 1) L (.int (zI (a % b)) :: st) τ ζ Q) : R E G k d pc L (.int (zI b) :: .int (zI a) :: st) τ ζ Q := by
  intro p e s m args below meth c H locs ls X
  refine lv_irem X.1 X.2.1 hd (fun h => ?_) ?_
  · rw [zI_0, zI_eq (by omega)] at h
    omega
  rw [zI_rem hr]
  exact K p e s m args below meth c H locs ls X
theorem R_iand {x y : Int32} (z : Int) (hv : x &&& y = zI z) (hd : decode k.2.2.1 pc = .ok (.iand, 1)) (K : R E G k d (pc + 1) L (.int (zI z) :: st) τ ζ Q) : R E G k d pc L (.int y :: .int x :: st) τ ζ Q := by
  intro p e s m args below meth c H locs ls X
  refine lv_iand X.1 X.2.1 hd ?_
  rw [hv]
  exact K p e s m args below meth c H locs ls X
theorem R_ior {x y : Int32} (z : Int) (hv : x ||| y = zI z) (hd : decode k.2.2.1 pc = .ok (.ior, 1)) (K : R E G k d (pc + 1) L (.int (zI z) :: st) τ ζ Q) : R E G k d pc L (.int y :: .int x :: st) τ ζ Q := by
  intro p e s m args below meth c H locs ls X
  refine lv_ior X.1 X.2.1 hd ?_
  rw [hv]
  exact K p e s m args below meth c H locs ls X
theorem R_ixor {x y : Int32} (z : Int) (hv : x ^^^ y = zI z) (hd : decode k.2.2.1 pc = .ok (.ixor, 1)) (K : R E G k d (pc + 1) L (.int (zI z) :: st) τ ζ Q) : R E G k d pc L (.int y :: .int x :: st) τ ζ Q := by
  intro p e s m args below meth c H locs ls X
  refine lv_ixor X.1 X.2.1 hd ?_
  rw [hv]
  exact K p e s m args below meth c H locs ls X
theorem R_ishl {x y : Int32} (z : Int) (hv : x <<< (y &&& 31) = zI z) (hd : decode k.2.2.1 pc = .ok (.ishl, 1)) (K : R E G k d (pc + 1) L (.int (zI z) :: st) τ ζ Q) : R E G k d pc L (.int y :: .int x :: st) τ ζ Q := by
  intro p e s m args below meth c H locs ls X
  refine lv_ishl X.1 X.2.1 hd ?_
  rw [hv]
  exact K p e s m args below meth c H locs ls X
theorem R_ishr {x y : Int32} (z : Int) (hv : x >>> (y &&& 31) = zI z) (hd : decode k.2.2.1 pc = .ok (.ishr, 1)) (K : R E G k d (pc + 1) L (.int (zI z) :: st) τ ζ Q) : R E G k d pc L (.int y :: .int x :: st) τ ζ Q := by
  intro p e s m args below meth c H locs ls X
  refine lv_ishr X.1 X.2.1 hd ?_
  rw [hv]
  exact K p e s m args below meth c H locs ls X
theorem R_iushr {x y : Int32} (z : Int) (hv : (x.toUInt32 >>> (y.toUInt32 &&& Int32.toUInt32 31)).toInt32 = zI z) (hd : decode k.2.2.1 pc = .ok (.iushr, 1)) (K : R E G k d (pc + 1) L (.int (zI z) :: st) τ ζ Q) : R E G k d pc L (.int y :: .int x :: st) τ ζ Q := by
  intro p e s m args below meth c H locs ls X
  exact lv_iushr X.1 X.2.1 hd hv (K p e s m args below meth c H locs ls X)
theorem R_ladd {a b : Int} (hd : decode k.2.2.1 pc = .ok (.ladd, 1)) (K : R E G k d (pc + 1) L (.long (zL (a + b)) :: st) τ ζ Q) : R E G k d pc L (.long (zL b) :: .long (zL a) :: st) τ ζ Q := by
  intro p e s m args below meth c H locs ls X
  refine lv_ladd X.1 X.2.1 hd ?_
  rw [zL_add]
  exact K p e s m args below meth c H locs ls X
theorem R_lmul {a b : Int} (hd : decode k.2.2.1 pc = .ok (.lmul, 1)) (K : R E G k d (pc + 1) L (.long (zL (a * b)) :: st) τ ζ Q) : R E G k d pc L (.long (zL b) :: .long (zL a) :: st) τ ζ Q := by
  intro p e s m args below meth c H locs ls X
  refine lv_lmul X.1 X.2.1 hd ?_
  rw [zL_mul]
  exact K p e s m args below meth c H locs ls X
theorem R_i2l {a : Int} (hr : -2147483648 ≤ a ∧ a < 2147483648) (hd : decode k.2.2.1 pc = .ok (.i2l, 1)) (K : R E G k d (pc + 1) L (.long (zL a) :: st) τ ζ Q) : R E G k d pc L (.int (zI a) :: st) τ ζ Q := by
  intro p e s m args below meth c H locs ls X
  exact lv_i2l X.1 X.2.1 hd (zI_toL hr) (K p e s m args below meth c H locs ls X)
theorem R_dup {v : Value} (hv : v.category = 1) (hd : decode k.2.2.1 pc = .ok (.dup, 1)) (K : R E G k d (pc + 1) L (v :: v :: st) τ ζ Q) : R E G k d pc L (v :: st) τ ζ Q := by
  intro p e s m args below meth c H locs ls X
  exact lv_dup X.1 X.2.1 hd hv (K p e s m args below meth c H locs ls X)
theorem R_dup2 {v w : Value} (hv : v.category = 1) (hw : w.category = 1) (hd : decode k.2.2.1 pc = .ok (.dup2, 1)) (K : R E G k d (pc + 1) L (v :: w :: v :: w :: st) τ ζ Q) : R E G k d pc L (v :: w :: st) τ ζ Q := by
  intro p e s m args below meth c H locs ls X
  exact lv_dup2_11 X.1 X.2.1 hd hv hw (K p e s m args below meth c H locs ls X)
theorem R_icmp_ge {a b off : Int} {tgt : Nat} (hr : (-2147483648 ≤ a ∧ a < 2147483648) ∧ (-2147483648 ≤ b ∧ b < 2147483648)) (hd : decode k.2.2.1 pc = .ok (.if_icmp .ge off, 3)) (ht : (pc : Int) + off = (tgt : Int)) (kt : b ≤ a → R E G k d tgt L st τ ζ Q) (kf : a < b → R E G k d (pc + 3) L st τ ζ Q) : R E G k d pc L (.int (zI b) :: .int (zI a) :: st) τ ζ Q := by
  intro p e s m args below meth c H locs ls X
  exact lv_icmp_ge X.1 X.2.1 hd ht (fun h => kt ((zI_le ⟨hr.2, hr.1⟩).mp h) p e s m args below meth c H locs ls X) (fun h => kf (Int.not_le.mp (fun q => h ((zI_le ⟨hr.2, hr.1⟩).mpr q))) p e s m args below meth c H locs ls X)
theorem R_icmp_lt {a b off : Int} {tgt : Nat} (hr : (-2147483648 ≤ a ∧ a < 2147483648) ∧ (-2147483648 ≤ b ∧ b < 2147483648)) (hd : decode k.2.2.1 pc = .ok (.if_icmp .lt off, 3)) (ht : (pc : Int) + off = (tgt : Int)) (kt : a < b → R E G k d tgt L st τ ζ Q) (kf : b ≤ a → R E G k d (pc + 3) L st τ ζ Q) : R E G k d pc L (.int (zI b) :: .int (zI a) :: st) τ ζ Q := by
  intro p e s m args below meth c H locs ls X
  exact lv_icmp_lt X.1 X.2.1 hd ht (fun h => kt ((zI_lt hr).mp h) p e s m args below meth c H locs ls X) (fun h => kf (Int.not_lt.mp (fun q => h ((zI_lt hr).mpr q))) p e s m args below meth c H locs ls X)
theorem R_icmp_eq {a b off : Int} {tgt : Nat} (hr : (-2147483648 ≤ a ∧ a < 2147483648) ∧ (-2147483648 ≤ b ∧ b < 2147483648)) (hd : decode k.2.2.1 pc = .ok (.if_icmp .eq off, 3)) (ht : (pc : Int) + off = (tgt : Int)) (kt : a = b → R E G k d tgt L st τ ζ Q) (kf : a ≠ b → R E G k d (pc + 3) L st τ ζ Q) : R E G k d pc L (.int (zI b) :: .int (zI a) :: st) τ ζ Q := by
  intro p e s m args below meth c H locs ls X
  exact lv_icmp_eq X.1 X.2.1 hd ht (fun h => kt ((zI_eq hr).mp h) p e s m args below meth c H locs ls X) (fun h => kf (fun q => h ((zI_eq hr).mpr q)) p e s m args below meth c H locs ls X)
theorem R_icmp_ne {a b off : Int} {tgt : Nat} (hr : (-2147483648 ≤ a ∧ a < 2147483648) ∧ (-2147483648 ≤ b ∧ b < 2147483648)) (hd : decode k.2.2.1 pc = .ok (.if_icmp .ne off, 3)) (ht : (pc : Int) + off = (tgt : Int)) (kt : a ≠ b → R E G k d tgt L st τ ζ Q) (kf : a = b → R E G k d (pc + 3) L st τ ζ Q) : R E G k d pc L (.int (zI b) :: .int (zI a) :: st) τ ζ Q := by
  intro p e s m args below meth c H locs ls X
  exact lv_icmp_ne X.1 X.2.1 hd ht (fun h => kt (fun q => h ((zI_eq hr).mpr q)) p e s m args below meth c H locs ls X) (fun h => kf ((zI_eq hr).mp h) p e s m args below meth c H locs ls X)
theorem R_icmp_gt {a b off : Int} {tgt : Nat} (hr : (-2147483648 ≤ a ∧ a < 2147483648) ∧ (-2147483648 ≤ b ∧ b < 2147483648)) (hd : decode k.2.2.1 pc = .ok (.if_icmp .gt off, 3)) (ht : (pc : Int) + off = (tgt : Int)) (kt : b < a → R E G k d tgt L st τ ζ Q) (kf : a ≤ b → R E G k d (pc + 3) L st τ ζ Q) : R E G k d pc L (.int (zI b) :: .int (zI a) :: st) τ ζ Q := by
  intro p e s m args below meth c H locs ls X
  exact lv_icmp_gt X.1 X.2.1 hd ht (fun h => kt ((zI_lt ⟨hr.2, hr.1⟩).mp h) p e s m args below meth c H locs ls X) (fun h => kf (Int.not_lt.mp (fun q => h ((zI_lt ⟨hr.2, hr.1⟩).mpr q))) p e s m args below meth c H locs ls X)
theorem R_icmp_le {a b off : Int} {tgt : Nat} (hr : (-2147483648 ≤ a ∧ a < 2147483648) ∧ (-2147483648 ≤ b ∧ b < 2147483648)) (hd : decode k.2.2.1 pc = .ok (.if_icmp .le off, 3)) (ht : (pc : Int) + off = (tgt : Int)) (kt : a ≤ b → R E G k d tgt L st τ ζ Q) (kf : b < a → R E G k d (pc + 3) L st τ ζ Q) : R E G k d pc L (.int (zI b) :: .int (zI a) :: st) τ ζ Q := by
  intro p e s m args below meth c H locs ls X
  exact lv_icmp_le X.1 X.2.1 hd ht (fun h => kt ((zI_le hr).mp h) p e s m args below meth c H locs ls X) (fun h => kf (Int.not_le.mp (fun q => h ((zI_le hr).mpr q))) p e s m args below meth c H locs ls X)
theorem R_if_ge {a off : Int} {tgt : Nat} (hr : -2147483648 ≤ a ∧ a < 2147483648) (hd : decode k.2.2.1 pc = .ok (.ifCond .ge off, 3)) (ht : (pc : Int) + off = (tgt : Int)) (kt : 0 ≤ a → R E G k d tgt L st τ ζ Q) (kf : a < 0 → R E G k d (pc + 3) L st τ ζ Q) : R E G k d pc L (.int (zI a) :: st) τ ζ Q := by
  intro p e s m args below meth c H locs ls X
  exact lv_if_ge X.1 X.2.1 hd ht (fun h => kt ((zI_le ⟨(show (-2147483648 ≤ (0:Int) ∧ (0:Int) < 2147483648) by omega), hr⟩).mp h) p e s m args below meth c H locs ls X) (fun h => kf (Int.not_le.mp (fun q => h ((zI_le ⟨(show (-2147483648 ≤ (0:Int) ∧ (0:Int) < 2147483648) by omega), hr⟩).mpr q))) p e s m args below meth c H locs ls X)
theorem R_if_lt {a off : Int} {tgt : Nat} (hr : -2147483648 ≤ a ∧ a < 2147483648) (hd : decode k.2.2.1 pc = .ok (.ifCond .lt off, 3)) (ht : (pc : Int) + off = (tgt : Int)) (kt : a < 0 → R E G k d tgt L st τ ζ Q) (kf : 0 ≤ a → R E G k d (pc + 3) L st τ ζ Q) : R E G k d pc L (.int (zI a) :: st) τ ζ Q := by
  intro p e s m args below meth c H locs ls X
  exact lv_if_lt X.1 X.2.1 hd ht (fun h => kt ((zI_lt ⟨hr, (show (-2147483648 ≤ (0:Int) ∧ (0:Int) < 2147483648) by omega)⟩).mp h) p e s m args below meth c H locs ls X) (fun h => kf (Int.not_lt.mp (fun q => h ((zI_lt ⟨hr, (show (-2147483648 ≤ (0:Int) ∧ (0:Int) < 2147483648) by omega)⟩).mpr q))) p e s m args below meth c H locs ls X)
theorem R_if_eq {a off : Int} {tgt : Nat} (hr : -2147483648 ≤ a ∧ a < 2147483648) (hd : decode k.2.2.1 pc = .ok (.ifCond .eq off, 3)) (ht : (pc : Int) + off = (tgt : Int)) (kt : a = 0 → R E G k d tgt L st τ ζ Q) (kf : a ≠ 0 → R E G k d (pc + 3) L st τ ζ Q) : R E G k d pc L (.int (zI a) :: st) τ ζ Q := by
  intro p e s m args below meth c H locs ls X
  exact lv_if_eq X.1 X.2.1 hd ht (fun h => kt ((zI_eq ⟨hr, (show (-2147483648 ≤ (0:Int) ∧ (0:Int) < 2147483648) by omega)⟩).mp h) p e s m args below meth c H locs ls X) (fun h => kf (fun q => h ((zI_eq ⟨hr, (show (-2147483648 ≤ (0:Int) ∧ (0:Int) < 2147483648) by omega)⟩).mpr q)) p e s m args below meth c H locs ls X)
theorem R_if_ne {a off : Int} {tgt : Nat} (hr : -2147483648 ≤ a ∧ a < 2147483648) (hd : decode k.2.2.1 pc = .ok (.ifCond .ne off, 3)) (ht : (pc : Int) + off = (tgt : Int)) (kt : a ≠ 0 → R E G k d tgt L st τ ζ Q) (kf : a = 0 → R E G k d (pc + 3) L st τ ζ Q) : R E G k d pc L (.int (zI a) :: st) τ ζ Q := by
  intro p e s m args below meth c H locs ls X
  exact lv_if_ne X.1 X.2.1 hd ht (fun h => kt (fun q => h ((zI_eq ⟨hr, (show (-2147483648 ≤ (0:Int) ∧ (0:Int) < 2147483648) by omega)⟩).mpr q)) p e s m args below meth c H locs ls X) (fun h => kf ((zI_eq ⟨hr, (show (-2147483648 ≤ (0:Int) ∧ (0:Int) < 2147483648) by omega)⟩).mp h) p e s m args below meth c H locs ls X)
theorem R_if_gt {a off : Int} {tgt : Nat} (hr : -2147483648 ≤ a ∧ a < 2147483648) (hd : decode k.2.2.1 pc = .ok (.ifCond .gt off, 3)) (ht : (pc : Int) + off = (tgt : Int)) (kt : 0 < a → R E G k d tgt L st τ ζ Q) (kf : a ≤ 0 → R E G k d (pc + 3) L st τ ζ Q) : R E G k d pc L (.int (zI a) :: st) τ ζ Q := by
  intro p e s m args below meth c H locs ls X
  exact lv_if_gt X.1 X.2.1 hd ht (fun h => kt ((zI_lt ⟨(show (-2147483648 ≤ (0:Int) ∧ (0:Int) < 2147483648) by omega), hr⟩).mp h) p e s m args below meth c H locs ls X) (fun h => kf (Int.not_lt.mp (fun q => h ((zI_lt ⟨(show (-2147483648 ≤ (0:Int) ∧ (0:Int) < 2147483648) by omega), hr⟩).mpr q))) p e s m args below meth c H locs ls X)
theorem R_if_le {a off : Int} {tgt : Nat} (hr : -2147483648 ≤ a ∧ a < 2147483648) (hd : decode k.2.2.1 pc = .ok (.ifCond .le off, 3)) (ht : (pc : Int) + off = (tgt : Int)) (kt : a ≤ 0 → R E G k d tgt L st τ ζ Q) (kf : 0 < a → R E G k d (pc + 3) L st τ ζ Q) : R E G k d pc L (.int (zI a) :: st) τ ζ Q := by
  intro p e s m args below meth c H locs ls X
  exact lv_if_le X.1 X.2.1 hd ht (fun h => kt ((zI_le ⟨hr, (show (-2147483648 ≤ (0:Int) ∧ (0:Int) < 2147483648) by omega)⟩).mp h) p e s m args below meth c H locs ls X) (fun h => kf (Int.not_le.mp (fun q => h ((zI_le ⟨hr, (show (-2147483648 ≤ (0:Int) ∧ (0:Int) < 2147483648) by omega)⟩).mpr q))) p e s m args below meth c H locs ls X)
theorem R_goto {off : Int} {tgt : Nat} (hd : decode k.2.2.1 pc = .ok (.goto off, 3)) (ht : (pc : Int) + off = (tgt : Int)) (K : R E G k d tgt L st τ ζ Q) : R E G k d pc L st τ ζ Q := by
  intro p e s m args below meth c H locs ls X
  exact lv_goto X.1 X.2.1 hd ht (K p e s m args below meth c H locs ls X)
theorem R_tabOut {a : Int} {tgt len : Nat} {dflt lo hi : Int} {offs : Array Int} (hr : -2147483648 ≤ a ∧ a < 2147483648) (hd : decode k.2.2.1 pc = .ok (.tableswitch dflt lo hi offs, len)) (h : a < lo ∨ hi < a) (ht : (pc : Int) + dflt = (tgt : Int)) (K : R E G k d tgt L st τ ζ Q) : R E G k d pc L (.int (zI a) :: st) τ ζ Q := by
  intro p e s m args below meth c H locs ls X
  exact lv_tableOut X.1 X.2.1 hd (by rw [zI_toInt hr]; exact h) ht (K p e s m args below meth c H locs ls X)
theorem R_tabIn {a : Int} {tgt len : Nat} {dflt lo hi off : Int} {offs : Array Int} (hr : -2147483648 ≤ a ∧ a < 2147483648) (hd : decode k.2.2.1 pc = .ok (.tableswitch dflt lo hi offs, len)) (h : lo ≤ a ∧ a ≤ hi) (ho : offs[(a - lo).toNat]? = some off) (ht : (pc : Int) + off = (tgt : Int)) (K : R E G k d tgt L st τ ζ Q) : R E G k d pc L (.int (zI a) :: st) τ ζ Q := by
  intro p e s m args below meth c H locs ls X
  exact lv_tableIn X.1 X.2.1 hd (by rw [zI_toInt hr]; omega) (by rw [zI_toInt hr]; omega) (by rw [zI_toInt hr]; exact ho) ht (K p e s m args below meth c H locs ls X)
theorem Ts0 (E : Ev) (G : Gd) : (eTs E G)[0]? = some (eTy E 0, .int) := by
  unfold eTs
  split <;> rfl
theorem Ts1 {E : Ev} {G : Gd} (h : G.2.2.1 = true) : (eTs E G)[1]? = some (eTy E 1, .boolean) := by
  unfold eTs
  rw [if_pos h]
  rfl
theorem WD_fld {τ' ζ' : Sf} {fs : List Nat} {j c : Nat} {z : Int} {x : Value} (hG : Gok G) (h1 : ∀ (i : Nat) (o : Nat × List Nat), G.2.1[i]? = some (.inl o) → i = 0) (h0 : G.2.1[0]? = some (.inl (G.2.2.2.2.2.2, fs))) (hf : fs[j]? = some c) (hx : fvl (eAd E) (up (cmb G.1 τ ζ) (20 + j) 0 z) j c = x) (g : cmb G.1 τ' ζ' = up (cmb G.1 τ ζ) (20 + j) 0 z) :
    (WD E G τ ζ).set 0 (eAd E 0, .inr (G.2.2.2.2.2.2, (fs.mapIdx (fun j c => fvl (eAd E) (cmb G.1 τ ζ) j c)).set j x)) = WD E G τ' ζ' := by
  unfold WD
  rw [g, fvl_set hf hx]
  refine wd_set (g := up (cmb G.1 τ ζ) (20 + j) 0 z) h0 (fun i t ht hi => ?_)
  have hlt : i < G.2.1.length := (List.getElem?_eq_some_iff.mp ht).1
  have := hG.2.1
  exact cel_up (by omega) (by omega) (Or.inr (fun o ho => hi (h1 i o (ho ▸ ht))))
theorem WD_row {τ' ζ' : Sf} {q n t : Nat} {z v : Int} (hG : Gok G) (hq : G.2.1[q]? = some (.inr (t, n))) (hz : 0 ≤ z ∧ z < n) (hn : n < 2147483648) (g : cmb G.1 τ' ζ' = up (cmb G.1 τ ζ) q z v) :
    (WD E G τ ζ).set q (eAd E q, .inl (eTy E t, n, .inl (upd (fun i : Nat => zI (cmb G.1 τ ζ q (i : Int))) (zI z).toNatClampNeg (zI v)))) = WD E G τ' ζ' := by
  unfold WD
  have hlt : q < G.2.1.length := (List.getElem?_eq_some_iff.mp hq).1
  have h20 := hG.2.1
  have e : cel (eAd E) (eTy E) (up (cmb G.1 τ ζ) q z v) q (.inr (t, n)) = .inl (eTy E t, n, .inl (upd (fun i : Nat => zI (cmb G.1 τ ζ q (i : Int))) (zI z).toNatClampNeg (zI v))) := by
    show Sum.inl (eTy E t, n, Sum.inl (fun i : Nat => zI (up (cmb G.1 τ ζ) q z v q (i : Int)))) = _
    congr 4
    funext i
    rw [up_at]
    show zI (if (i : Int) = z then v else cmb G.1 τ ζ q (i : Int)) = upd (fun i : Nat => zI (cmb G.1 τ ζ q (i : Int))) (zI z).toNatClampNeg (zI v) i
    unfold upd
    have h1 := zI_cl (z := z) (by omega)
    by_cases h : i = (zI z).toNatClampNeg
    · rw [if_pos h, if_pos (by rw [h]; exact h1)]
    · rw [if_neg h, if_neg (fun h2 => h (by omega))]
  rw [g, ← e]
  refine wd_set (g := up (cmb G.1 τ ζ) q z v) hq (fun i t ht hi => ?_)
  have hlt' : i < G.2.1.length := (List.getElem?_eq_some_iff.mp ht).1
  exact cel_up hi (by omega) (Or.inl (by omega))
/-- what a rule on a field asks of the world's description: its number j, its code c -/
def Fok (G : Gd) (k : Mt) (idx j c : Nat) : Prop := Gok G ∧ (∀ w ∈ u_ws G.2.2.2.1 G.2.2.2.2.1 G.2.2.2.2.2.1, w ∈ k.2.1) ∧ (∀ (i : Nat) (o : Nat × List Nat), G.2.1[i]? = some (.inl o) → i = 0) ∧ (∃ fs : List Nat, G.2.1[0]? = some (.inl (G.2.2.2.2.2.2, fs)) ∧ fs[j]? = some c) ∧ (G.2.2.2.2.1 j).1 = G.2.2.2.1 ∧ j < G.2.2.2.2.2.1 ∧ Cond.fieldLink k.1.cls idx G.2.2.2.1 (G.2.2.2.2.1 j).2.1 (G.2.2.2.2.1 j).2.2.1 ∈ k.2.1

theorem R_getF {j c idx : Nat} {v : Value} (F : Fok G k idx j c) (hv : fvl (eAd E) (cmb G.1 τ ζ) j c = v) (hd : decode k.2.2.1 pc = .ok (.getfield idx, 3)) (K : R E G k d (pc + 3) L (v :: st) τ ζ Q) : R E G k d pc L (.ref (eAd E 0) :: st) τ ζ Q := by
  intro p e s m args below meth c H locs ls X
  obtain ⟨hG, hw, h1, ⟨fs, h0, hf⟩, hT, hj, hl⟩ := F
  obtain ⟨x1, x2, x3, x4, x5, x6, x7, x8, x9, x10⟩ := id X
  exact va_get (D := eD E) (cl := vwCl) (ci := G.2.2.2.2.2.2) (C := G.2.2.2.1) (T := G.2.2.2.2.1) (N := G.2.2.2.2.2.1) x1 x2 x6 hw x7 x8.1 x8.2.1 0 (wd_get h0) hG.1 j hj (x6 _ hl) (fun x hx => by rw [hT] at hx; exact hx) (v := v) (by rw [List.getElem?_mapIdx, hf, ← hv]; rfl) hd (K p e s m args below meth c H locs ls X)
theorem R_getI {j idx : Nat} (jj : Nat) (F : Fok G k idx j 0) (hj : 20 + j = jj) (hp : G.1 jj = true) (hd : decode k.2.2.1 pc = .ok (.getfield idx, 3)) (K : R E G k d (pc + 3) L (.int (zI (τ jj 0)) :: st) τ ζ Q) : R E G k d pc L (.ref (eAd E 0) :: st) τ ζ Q := by
  subst hj
  exact R_getF F (by show Value.int (zI (cmb G.1 τ ζ (20 + j) 0)) = _; rw [cmb_P hp]) hd K
theorem R_getIs {j idx : Nat} (jj : Nat) (F : Fok G k idx j 0) (hj : 20 + j = jj) (hp : G.1 jj = false) (hd : decode k.2.2.1 pc = .ok (.getfield idx, 3)) (K : R E G k d (pc + 3) L (.int (zI (ζ jj 0)) :: st) τ ζ Q) : R E G k d pc L (.ref (eAd E 0) :: st) τ ζ Q := by
  subst hj
  exact R_getF F (by show Value.int (zI (cmb G.1 τ ζ (20 + j) 0)) = _; rw [cmb_S hp]) hd K
theorem R_getLs {j idx : Nat} (jj : Nat) (F : Fok G k idx j 1) (hj : 20 + j = jj) (hp : G.1 jj = false) (hd : decode k.2.2.1 pc = .ok (.getfield idx, 3)) (K : R E G k d (pc + 3) L (.long (zL (ζ jj 0)) :: st) τ ζ Q) : R E G k d pc L (.ref (eAd E 0) :: st) τ ζ Q := by
  subst hj
  exact R_getF F (by show Value.long (zL (cmb G.1 τ ζ (20 + j) 0)) = _; rw [cmb_S hp]) hd K
theorem R_getR {j q idx : Nat} (F : Fok G k idx j (q + 2)) (hd : decode k.2.2.1 pc = .ok (.getfield idx, 3)) (K : R E G k d (pc + 3) L (.ref (eAd E q) :: st) τ ζ Q) : R E G k d pc L (.ref (eAd E 0) :: st) τ ζ Q :=
  R_getF F rfl hd K
theorem R_putF {j c idx : Nat} {x : Value} {z : Int} {τ' ζ' : Sf} {ty : FieldType} (F : Fok G k idx j c) (hx : fvl (eAd E) (up (cmb G.1 τ ζ) (20 + j) 0 z) j c = x) (g : cmb G.1 τ' ζ' = up (cmb G.1 τ ζ) (20 + j) 0 z) (hfin : (G.2.2.2.2.1 j).2.2.2 = false) (hty : parseFieldDescriptor (G.2.2.2.2.1 j).2.2.1 = some ty) (hn : narrow ty x = x) (hfit : fits ty x = true) (hd : decode k.2.2.1 pc = .ok (.putfield idx, 3)) (K : R E G k d (pc + 3) L st τ' ζ' Q) : R E G k d pc L (x :: .ref (eAd E 0) :: st) τ ζ Q := by
  intro p e s m args below meth c H locs ls X
  obtain ⟨hG, hw, h1, ⟨fs, h0, hf⟩, hT, hj, hl⟩ := F
  obtain ⟨x1, x2, x3, x4, x5, x6, x7, x8, x9, x10⟩ := id X
  have hty0 : ∃ ty0 : Nat → FieldType, ∀ j, j < G.2.2.2.2.2.1 → parseFieldDescriptor (G.2.2.2.2.1 j).2.2.1 = some (ty0 j) := by
    refine ⟨fun j => if h : j < G.2.2.2.2.2.1 then Classical.choose (hG.2.2.2 j h) else .int, fun j h => ?_⟩
    show _ = some (dite _ _ _)
    rw [dif_pos h]
    exact Classical.choose_spec (hG.2.2.2 j h)
  obtain ⟨ty0, hty0⟩ := hty0
  have hlen : j < (fs.mapIdx (fun j c => fvl (eAd E) (cmb G.1 τ ζ) j c)).length := by
    have := (List.getElem?_eq_some_iff.mp hf).1
    simpa using this
  refine va_put (D := eD E) (cl := vwCl) (ci := G.2.2.2.2.2.2) (C := G.2.2.2.1) (T := G.2.2.2.2.1) (N := G.2.2.2.2.2.1) x1 x2 x6 hw ty0 hty0 hG.2.2.1 x7 x8.1 x8.2.1 x8.2.2 x9 0 (wd_get h0) hG.1 j hj (x6 _ hl) (fun y hy => by rw [hT] at hy; exact hy) hfin hty hn hfit hlen hd (fun H1 locs1 hP hD hS => ?_)
  have ee := WD_fld (E := E) (ζ' := ζ') (τ' := τ') hG h1 h0 hf hx g
  exact K p e s m args below meth c H1 locs1 ls (X.H' ⟨x8.1, ee ▸ hP, ee ▸ hD⟩ hS)
theorem R_putI {j idx : Nat} {z : Int} (jj : Nat) (F : Fok G k idx j 0) (hj : 20 + j = jj) (hp : G.1 jj = true) (hfin : (G.2.2.2.2.1 j).2.2.2 = false) (hty : parseFieldDescriptor (G.2.2.2.2.1 j).2.2.1 = some .int) (hd : decode k.2.2.1 pc = .ok (.putfield idx, 3)) (K : R E G k d (pc + 3) L st (up τ jj 0 z) ζ Q) : R E G k d pc L (.int (zI z) :: .ref (eAd E 0) :: st) τ ζ Q := by
  subst hj
  exact R_putF F (by show Value.int (zI (up (cmb G.1 τ ζ) (20 + j) 0 z (20 + j) 0)) = _; rw [up_at, if_pos rfl]) (cmb_upP hp) hfin hty rfl rfl hd K
theorem R_putIs {j idx : Nat} {z : Int} (jj : Nat) (F : Fok G k idx j 0) (hj : 20 + j = jj) (hp : G.1 jj = false) (hfin : (G.2.2.2.2.1 j).2.2.2 = false) (hty : parseFieldDescriptor (G.2.2.2.2.1 j).2.2.1 = some .int) (hd : decode k.2.2.1 pc = .ok (.putfield idx, 3)) (K : R E G k d (pc + 3) L st τ (up ζ jj 0 z) Q) : R E G k d pc L (.int (zI z) :: .ref (eAd E 0) :: st) τ ζ Q := by
  subst hj
  exact R_putF F (by show Value.int (zI (up (cmb G.1 τ ζ) (20 + j) 0 z (20 + j) 0)) = _; rw [up_at, if_pos rfl]) (cmb_upS hp) hfin hty rfl rfl hd K
theorem zI_bool {z : Int} (h : z = 0 ∨ z = 1) : narrow .boolean (.int (zI z)) = .int (zI z) ∧ fits .boolean (.int (zI z)) = true := by
  rcases h with rfl | rfl <;> exact ⟨by decide +kernel, by decide +kernel⟩
theorem R_putZ {j idx : Nat} {z : Int} (jj : Nat) (F : Fok G k idx j 0) (hz : z = 0 ∨ z = 1) (hj : 20 + j = jj) (hp : G.1 jj = true) (hfin : (G.2.2.2.2.1 j).2.2.2 = false) (hty : parseFieldDescriptor (G.2.2.2.2.1 j).2.2.1 = some .boolean) (hd : decode k.2.2.1 pc = .ok (.putfield idx, 3)) (K : R E G k d (pc + 3) L st (up τ jj 0 z) ζ Q) : R E G k d pc L (.int (zI z) :: .ref (eAd E 0) :: st) τ ζ Q := by
  subst hj
  exact R_putF F (by show Value.int (zI (up (cmb G.1 τ ζ) (20 + j) 0 z (20 + j) 0)) = _; rw [up_at, if_pos rfl]) (cmb_upP hp) hfin hty (zI_bool hz).1 (zI_bool hz).2 hd K
theorem R_putZs {j idx : Nat} {z : Int} (jj : Nat) (F : Fok G k idx j 0) (hz : z = 0 ∨ z = 1) (hj : 20 + j = jj) (hp : G.1 jj = false) (hfin : (G.2.2.2.2.1 j).2.2.2 = false) (hty : parseFieldDescriptor (G.2.2.2.2.1 j).2.2.1 = some .boolean) (hd : decode k.2.2.1 pc = .ok (.putfield idx, 3)) (K : R E G k d (pc + 3) L st τ (up ζ jj 0 z) Q) : R E G k d pc L (.int (zI z) :: .ref (eAd E 0) :: st) τ ζ Q := by
  subst hj
  exact R_putF F (by show Value.int (zI (up (cmb G.1 τ ζ) (20 + j) 0 z (20 + j) 0)) = _; rw [up_at, if_pos rfl]) (cmb_upS hp) hfin hty (zI_bool hz).1 (zI_bool hz).2 hd K
theorem R_putLs {j idx : Nat} {z : Int} (jj : Nat) (F : Fok G k idx j 1) (hj : 20 + j = jj) (hp : G.1 jj = false) (hfin : (G.2.2.2.2.1 j).2.2.2 = false) (hty : parseFieldDescriptor (G.2.2.2.2.1 j).2.2.1 = some .long) (hd : decode k.2.2.1 pc = .ok (.putfield idx, 3)) (K : R E G k d (pc + 3) L st τ (up ζ jj 0 z) Q) : R E G k d pc L (.long (zL z) :: .ref (eAd E 0) :: st) τ ζ Q := by
  subst hj
  exact R_putF F (by show Value.long (zL (up (cmb G.1 τ ζ) (20 + j) 0 z (20 + j) 0)) = _; rw [up_at, if_pos rfl]) (cmb_upS hp) hfin hty rfl rfl hd K

theorem R_iald {q n : Nat} {z : Int} (hq : G.2.1[q]? = some (.inr (0, n))) (hp : G.1 q = true) (hz : 0 ≤ z ∧ z < n) (hn : Nat.blt n 2147483648 = true) (hd : decode k.2.2.1 pc = .ok (.iaload, 1)) (K : R E G k d (pc + 1) L (.int (zI (τ q z)) :: st) τ ζ Q) : R E G k d pc L (.int (zI z) :: .ref (eAd E q) :: st) τ ζ Q := by
  intro p e s m args below meth c H locs ls X
  obtain ⟨x1, x2, x3, x4, x5, x6, x7, x8, x9, x10⟩ := id X
  have hn := Nat.blt_eq.mp hn
  refine va_iald (D := eD E) (cl := vwCl) x1 x2 x8.1 x8.2.1 q 0 (wd_get hq) (Ts0 E G) (zI_in hz hn) hd ?_
  have ee : zI (cmb G.1 τ ζ q ((zI z).toNatClampNeg : Int)) = zI (τ q z) := by rw [zI_cl (by omega), cmb_P hp]
  show W p E.1 e _ s m args below meth c H locs 0 0 _ (F0 m (pc + 1) ls (.int (zI (cmb G.1 τ ζ q ((zI z).toNatClampNeg : Int))) :: st))
  rw [ee]
  exact K p e s m args below meth c H locs ls X
theorem R_ialds {q n : Nat} {z : Int} (hq : G.2.1[q]? = some (.inr (0, n))) (hp : G.1 q = false) (hz : 0 ≤ z ∧ z < n) (hn : Nat.blt n 2147483648 = true) (hd : decode k.2.2.1 pc = .ok (.iaload, 1)) (K : R E G k d (pc + 1) L (.int (zI (ζ q z)) :: st) τ ζ Q) : R E G k d pc L (.int (zI z) :: .ref (eAd E q) :: st) τ ζ Q := by
  intro p e s m args below meth c H locs ls X
  obtain ⟨x1, x2, x3, x4, x5, x6, x7, x8, x9, x10⟩ := id X
  have hn := Nat.blt_eq.mp hn
  refine va_iald (D := eD E) (cl := vwCl) x1 x2 x8.1 x8.2.1 q 0 (wd_get hq) (Ts0 E G) (zI_in hz hn) hd ?_
  have ee : zI (cmb G.1 τ ζ q ((zI z).toNatClampNeg : Int)) = zI (ζ q z) := by rw [zI_cl (by omega), cmb_S hp]
  show W p E.1 e _ s m args below meth c H locs 0 0 _ (F0 m (pc + 1) ls (.int (zI (cmb G.1 τ ζ q ((zI z).toNatClampNeg : Int))) :: st))
  rw [ee]
  exact K p e s m args below meth c H locs ls X
theorem R_bald {q n : Nat} {z : Int} (hq : G.2.1[q]? = some (.inr (1, n))) (hb : G.2.2.1 = true) (hp : G.1 q = true) (hz : 0 ≤ z ∧ z < n) (hn : Nat.blt n 2147483648 = true) (hd : decode k.2.2.1 pc = .ok (.baload, 1)) (K : R E G k d (pc + 1) L (.int (zI (τ q z)) :: st) τ ζ Q) : R E G k d pc L (.int (zI z) :: .ref (eAd E q) :: st) τ ζ Q := by
  intro p e s m args below meth c H locs ls X
  obtain ⟨x1, x2, x3, x4, x5, x6, x7, x8, x9, x10⟩ := id X
  have hn := Nat.blt_eq.mp hn
  refine va_zald (D := eD E) (cl := vwCl) x1 x2 x8.1 x8.2.1 q 1 (wd_get hq) (Ts1 hb) (zI_in hz hn) hd ?_
  have ee : zI (cmb G.1 τ ζ q ((zI z).toNatClampNeg : Int)) = zI (τ q z) := by rw [zI_cl (by omega), cmb_P hp]
  show W p E.1 e _ s m args below meth c H locs 0 0 _ (F0 m (pc + 1) ls (.int (zI (cmb G.1 τ ζ q ((zI z).toNatClampNeg : Int))) :: st))
  rw [ee]
  exact K p e s m args below meth c H locs ls X
theorem R_balds {q n : Nat} {z : Int} (hq : G.2.1[q]? = some (.inr (1, n))) (hb : G.2.2.1 = true) (hp : G.1 q = false) (hz : 0 ≤ z ∧ z < n) (hn : Nat.blt n 2147483648 = true) (hd : decode k.2.2.1 pc = .ok (.baload, 1)) (K : R E G k d (pc + 1) L (.int (zI (ζ q z)) :: st) τ ζ Q) : R E G k d pc L (.int (zI z) :: .ref (eAd E q) :: st) τ ζ Q := by
  intro p e s m args below meth c H locs ls X
  obtain ⟨x1, x2, x3, x4, x5, x6, x7, x8, x9, x10⟩ := id X
  have hn := Nat.blt_eq.mp hn
  refine va_zald (D := eD E) (cl := vwCl) x1 x2 x8.1 x8.2.1 q 1 (wd_get hq) (Ts1 hb) (zI_in hz hn) hd ?_
  have ee : zI (cmb G.1 τ ζ q ((zI z).toNatClampNeg : Int)) = zI (ζ q z) := by rw [zI_cl (by omega), cmb_S hp]
  show W p E.1 e _ s m args below meth c H locs 0 0 _ (F0 m (pc + 1) ls (.int (zI (cmb G.1 τ ζ q ((zI z).toNatClampNeg : Int))) :: st))
  rw [ee]
  exact K p e s m args below meth c H locs ls X
theorem R_iast {q n : Nat} {z v : Int} (hG : Gok G) (hq : G.2.1[q]? = some (.inr (0, n))) (hp : G.1 q = true) (hz : 0 ≤ z ∧ z < n) (hn : Nat.blt n 2147483648 = true) (hd : decode k.2.2.1 pc = .ok (.iastore, 1)) (K : R E G k d (pc + 1) L st (up τ q z v) ζ Q) : R E G k d pc L (.int (zI v) :: .int (zI z) :: .ref (eAd E q) :: st) τ ζ Q := by
  intro p e s m args below meth c H locs ls X
  obtain ⟨x1, x2, x3, x4, x5, x6, x7, x8, x9, x10⟩ := id X
  have hn := Nat.blt_eq.mp hn
  refine va_iast (D := eD E) (cl := vwCl) x1 x2 x8.1 x8.2.1 x8.2.2 x9 q 0 (wd_get hq) (Ts0 E G) (zI_in hz hn) hd (fun H1 locs1 hP hD hS => ?_)
  have ee := WD_row (E := E) (v := v) (τ' := (up τ q z v)) (ζ' := ζ) hG hq hz hn (cmb_upP hp)
  exact K p e s m args below meth c H1 locs1 ls (X.H' ⟨x8.1, ee ▸ hP, ee ▸ hD⟩ hS)
theorem R_iasts {q n : Nat} {z v : Int} (hG : Gok G) (hq : G.2.1[q]? = some (.inr (0, n))) (hp : G.1 q = false) (hz : 0 ≤ z ∧ z < n) (hn : Nat.blt n 2147483648 = true) (hd : decode k.2.2.1 pc = .ok (.iastore, 1)) (K : R E G k d (pc + 1) L st τ (up ζ q z v) Q) : R E G k d pc L (.int (zI v) :: .int (zI z) :: .ref (eAd E q) :: st) τ ζ Q := by
  intro p e s m args below meth c H locs ls X
  obtain ⟨x1, x2, x3, x4, x5, x6, x7, x8, x9, x10⟩ := id X
  have hn := Nat.blt_eq.mp hn
  refine va_iast (D := eD E) (cl := vwCl) x1 x2 x8.1 x8.2.1 x8.2.2 x9 q 0 (wd_get hq) (Ts0 E G) (zI_in hz hn) hd (fun H1 locs1 hP hD hS => ?_)
  have ee := WD_row (E := E) (v := v) (τ' := τ) (ζ' := (up ζ q z v)) hG hq hz hn (cmb_upS hp)
  exact K p e s m args below meth c H1 locs1 ls (X.H' ⟨x8.1, ee ▸ hP, ee ▸ hD⟩ hS)
theorem R_bast {q n : Nat} {z v : Int} (hG : Gok G) (hq : G.2.1[q]? = some (.inr (1, n))) (hb : G.2.2.1 = true) (hv : v = 0 ∨ v = 1) (hp : G.1 q = true) (hz : 0 ≤ z ∧ z < n) (hn : Nat.blt n 2147483648 = true) (hd : decode k.2.2.1 pc = .ok (.bastore, 1)) (K : R E G k d (pc + 1) L st (up τ q z v) ζ Q) : R E G k d pc L (.int (zI v) :: .int (zI z) :: .ref (eAd E q) :: st) τ ζ Q := by
  intro p e s m args below meth c H locs ls X
  obtain ⟨x1, x2, x3, x4, x5, x6, x7, x8, x9, x10⟩ := id X
  have hn := Nat.blt_eq.mp hn
  refine va_zast (D := eD E) (cl := vwCl) x1 x2 x8.1 x8.2.1 x8.2.2 x9 q 1 (wd_get hq) (Ts1 hb) (zI_in hz hn) hd (fun H1 locs1 hP hD hS => ?_)
  have hnr : vp_nar .boolean (zI v) = zI v := by
    rcases hv with rfl | rfl <;> decide +kernel
  rw [hnr] at hP hD
  have ee := WD_row (E := E) (v := v) (τ' := (up τ q z v)) (ζ' := ζ) hG hq hz hn (cmb_upP hp)
  exact K p e s m args below meth c H1 locs1 ls (X.H' ⟨x8.1, ee ▸ hP, ee ▸ hD⟩ hS)
theorem R_basts {q n : Nat} {z v : Int} (hG : Gok G) (hq : G.2.1[q]? = some (.inr (1, n))) (hb : G.2.2.1 = true) (hv : v = 0 ∨ v = 1) (hp : G.1 q = false) (hz : 0 ≤ z ∧ z < n) (hn : Nat.blt n 2147483648 = true) (hd : decode k.2.2.1 pc = .ok (.bastore, 1)) (K : R E G k d (pc + 1) L st τ (up ζ q z v) Q) : R E G k d pc L (.int (zI v) :: .int (zI z) :: .ref (eAd E q) :: st) τ ζ Q := by
  intro p e s m args below meth c H locs ls X
  obtain ⟨x1, x2, x3, x4, x5, x6, x7, x8, x9, x10⟩ := id X
  have hn := Nat.blt_eq.mp hn
  refine va_zast (D := eD E) (cl := vwCl) x1 x2 x8.1 x8.2.1 x8.2.2 x9 q 1 (wd_get hq) (Ts1 hb) (zI_in hz hn) hd (fun H1 locs1 hP hD hS => ?_)
  have hnr : vp_nar .boolean (zI v) = zI v := by
    rcases hv with rfl | rfl <;> decide +kernel
  rw [hnr] at hP hD
  have ee := WD_row (E := E) (v := v) (τ' := τ) (ζ' := (up ζ q z v)) hG hq hz hn (cmb_upS hp)
  exact K p e s m args below meth c H1 locs1 ls (X.H' ⟨x8.1, ee ▸ hP, ee ▸ hD⟩ hS)
theorem R_alen {q n : Nat} (hq : G.2.1[q]? = some (.inr (0, n))) (hd : decode k.2.2.1 pc = .ok (.arraylength, 1)) (K : R E G k d (pc + 1) L (.int (zI (n : Int)) :: st) τ ζ Q) : R E G k d pc L (.ref (eAd E q) :: st) τ ζ Q := by
  intro p e s m args below meth c H locs ls X
  obtain ⟨x1, x2, x3, x4, x5, x6, x7, x8, x9, x10⟩ := id X
  exact va_alen (D := eD E) (cl := vwCl) (v := zI (n : Int)) x1 x2 x8.1 x8.2.1 q 0 (wd_get hq) (Ts0 E G) (Int32.ofInt_eq_ofNat).symm hd (K p e s m args below meth c H locs ls X)

theorem R_iret {z : Int} (hr : k.2.2.2.2 = some .int) (hd : decode k.2.2.1 pc = .ok (.ireturn, 1)) (K : Q (some (.int (zI z))) τ ζ) : R E G k d pc L [.int (zI z)] τ ζ Q := by
  intro p e s m args below meth c H locs ls X
  obtain ⟨x1, x2, x3, x4, x5, x6, x7, x8, x9, x10⟩ := id X
  exact W.iret x1 x2 (x4.trans hr) (fun t ht hW => ⟨⟨_, τ, ζ, rfl, K, va_K.moved hW.alike x8.1, by rw [ht]; exact x8.2.1, x8.2.2⟩, x9.F ht⟩) x9.2.2 hd
theorem R_zret {z : Int} (hr : k.2.2.2.2 = some .boolean) (hz : z = 0 ∨ z = 1) (hd : decode k.2.2.1 pc = .ok (.ireturn, 1)) (K : Q (some (.int (zI z))) τ ζ) : R E G k d pc L [.int (zI z)] τ ζ Q := by
  intro p e s m args below meth c H locs ls X
  obtain ⟨x1, x2, x3, x4, x5, x6, x7, x8, x9, x10⟩ := id X
  exact W.zret x1 x2 (x4.trans hr) (zI_bool hz).1 (fun t ht hW => ⟨⟨_, τ, ζ, rfl, K, va_K.moved hW.alike x8.1, by rw [ht]; exact x8.2.1, x8.2.2⟩, x9.F ht⟩) x9.2.2 hd
theorem R_lret {z : Int} (hr : k.2.2.2.2 = some .long) (hd : decode k.2.2.1 pc = .ok (.lreturn, 1)) (K : Q (some (.long (zL z))) τ ζ) : R E G k d pc L [.long (zL z)] τ ζ Q := by
  intro p e s m args below meth c H locs ls X
  obtain ⟨x1, x2, x3, x4, x5, x6, x7, x8, x9, x10⟩ := id X
  exact W.lret x1 x2 (x4.trans hr) (fun t ht hW => ⟨⟨_, τ, ζ, rfl, K, va_K.moved hW.alike x8.1, by rw [ht]; exact x8.2.1, x8.2.2⟩, x9.F ht⟩) x9.2.2 hd
theorem R_vret (hr : k.2.2.2.2 = none) (hd : decode k.2.2.1 pc = .ok (.return_, 1)) (K : Q none τ ζ) : R E G k d pc L [] τ ζ Q := by
  intro p e s m args below meth c H locs ls X
  obtain ⟨x1, x2, x3, x4, x5, x6, x7, x8, x9, x10⟩ := id X
  exact W.vret x1 x2 (x4.trans hr) (fun t ht hW => ⟨⟨_, τ, ζ, rfl, K, va_K.moved hW.alike x8.1, by rw [ht]; exact x8.2.1, x8.2.2⟩, x9.F ht⟩) x9.2.2 hd

/-- the locals at a method's entry -/
def ent : List Value → Nat → List (Option Value)
  | [], n => List.replicate n none
  | v :: vs, n => if v.category = 2 then some v :: none :: ent vs (n - 2) else some v :: ent vs (n - 1)
theorem ent_args : ∀ (as : List Value) (n i j : Nat) (v : Value), (ent as n)[i]? = some (some v) → (j + i, v) ∈ lv_args j as
  | [], n, i, j, v, h => by
    rw [ent, List.getElem?_replicate] at h
    split at h <;> cases h
  | a :: as, n, i, j, v, h => by
    by_cases hc : a.category = 2
    · rw [ent, if_pos hc] at h
      rw [lv_args, if_pos hc]
      match i, h with
      | 0, h => cases h; exact List.mem_cons_self
      | 1, h => cases h
      | i + 2, h =>
        have := ent_args as (n - 2) i (j + 2) v h
        rw [show j + (i + 2) = j + 2 + i by omega]
        exact List.mem_cons_of_mem _ this
    · rw [ent, if_neg hc] at h
      rw [lv_args, if_neg hc]
      match i, h with
      | 0, h => cases h; exact List.mem_cons_self
      | i + 1, h =>
        have := ent_args as (n - 1) i (j + 1) v h
        rw [show j + (i + 1) = j + 1 + i by omega]
        exact List.mem_cons_of_mem _ this
theorem C_of {as : List Value} {ws' : List Cond} (hy : plainName k.1.cls = true) (hw : k.2.1 = Cond.code k.1 k.2.2.1 k.2.2.2.1 k.2.2.2.2 :: ws') (hn : Nat.ble (lg_sl as).length k.2.2.2.1 = true) (K : R E G k d 0 (ent as k.2.2.2.1) [] τ ζ Q) : C E G k d as τ ζ Q := by
  refine Met.ofW (cc := k.2.2.1) (maxL := k.2.2.2.1) (ret := k.2.2.2.2) hy hw ?_
  intro p e s m args below meth c s₁ B hml hv
  obtain ⟨rfl, hH⟩ := hv
  have hts := atoms_spec (ws := k.2.1) B.pre
  have hown : s.vm.findClass k.1.cls = some m.cls := findClass_of_methodNamed B.named
  have hl := lv_entry as (n := k.2.2.2.1) (Nat.le_of_ble_eq_true hn)
  rw [lg_entry_eq]
  exact K p e s m _ below meth c s.heap [] _ ⟨B.exec, B.bytes, hml, B.returns, B.notSynchronized, hts, hown, hH, va_S.rf, hl.1, hl.2.1, fun i v h => by
    have := ent_args as k.2.2.2.1 i 0 v h
    rw [Nat.zero_add] at this
    exact hl.2.2 (i, v) this⟩
theorem C_blind {as : List Value} : FrameBlind (va_Pc as (fun U => HW E G τ ζ U U.heap)) := fun a U g mk q => by
  obtain ⟨q0, qH⟩ := q
  exact ⟨q0, HW.moved (u := U) (U := U.calling g mk a) (Vm.Alike.refl U.vm) qH⟩

theorem R_back {k2 : Mt} {as : List Value} {Q2 : Option Value → Sf → Sf → Prop} {p : Program} {e : Env} {s : State} {m : MethodId} {args : Array Value} {below : List Frame} {meth : Method} {c : Code} {H : Heap} {locs : List Loc} {ls : Array Slot} {st0 : List Value}
    (X : Cx E G k L τ ζ p s m args meth c H locs ls) (hr : va_Run p E.1 e (rmd d) s m args below meth c H locs 0 0 0 0 (F0 m pc ls st0) st (QQ E G Q2 as.toArray) (AA E G))
    (kk : ∀ (v : Option Value) (τ' ζ' : Sf), Q2 v τ' ζ' → R E G k d (pc + 3) L (v.toList ++ st) τ' ζ' Q) : W p E.1 e (rmd d) s m args below meth c H locs 0 0 (MQ below (QQ E G Q) args s 0 0 (AA E G)) (F0 m pc ls st0) := by
  intro T hT XT
  obtain ⟨x1, x2, x3, x4, x5, x6, x7, x8, x9, x10⟩ := id X
  obtain ⟨v, st₀, t, T', L', h0, X', hL, e1, e2, ⟨⟨v', τ', ζ', hv, hq, hb⟩, hz, hk⟩, hst⟩ := hr T hT XT
  cases hv
  rw [h0] at hz hk
  have hal : s.vm.Alike t.vm := by rw [← e2]; exact X'.warmed.alike
  have hH' : HW E G τ' ζ' s T'.heap := by
    rw [e1]
    exact ⟨va_K.moved hal.symm hb.1, hb.2⟩
  have hS' : va_S (AA E G) s.heap T'.heap (locs ++ L') := ⟨Nat.le_trans x9.1 (by rw [e1]; exact hz), fun q h1 h2 => by rw [e1, hk q (Nat.lt_of_lt_of_le h1 x9.1) h2]; exact x9.2.1 q h1 h2, fun q hq => by
      rcases List.mem_append.mp hq with h | h
      · exact x9.2.2 q h
      · exact hL q h⟩
  obtain ⟨t2, a1, b1⟩ := kk v τ' ζ' hq p e s m args below meth c T'.heap (locs ++ L') ls (X.H' hH' hS') T' rfl X'
  exact ⟨t2, hst t2 a1, b1⟩
/-- what a call asks of the callee's description: its name, its words, how many arguments -/
def Kok (k2 : Mt) (n : Nat) : Prop := (∃ ws', k2.2.1 = Cond.code k2.1 k2.2.2.1 k2.2.2.2.1 k2.2.2.2.2 :: ws') ∧ (k2.1.cls ≠ "java/lang/invoke/MethodHandle" ∧ k2.1.cls ≠ "java/lang/invoke/VarHandle" ∧ (parseMethodDescriptor k2.1.desc).map (fun d => d.parameters.length) = some n) ∧ k2.2.2.2.1 ≤ 45
theorem R_callV {k2 : Mt} {own : String} {idx n : Nat} {as : List Value} (hd : decode k.2.2.1 pc = .ok (.invokevirtual idx, 3)) (ho : k.1.cls = own) (g : GoodIn k.2.1 (wsV own idx k2.1.cls k2.1 k2.2.1)) (hk : Kok k2 n) (hn : as.length = n) (hci : vwCl[G.2.2.2.2.2.2]? = some (k2.1.cls, G.2.2.2.2.1, G.2.2.2.2.2.1)) {fs : List Nat} (h0 : G.2.1[0]? = some (.inl (G.2.2.2.2.2.2, fs)))
    (hst : (st.map fun v => v.category).sum ≤ 8) (K : C E G k2 d (.ref (eAd E 0) :: as) τ ζ (fun v τ' ζ' => R E G k (d + 1) (pc + 3) L (v.toList ++ st) τ' ζ' Q)) : R E G k (d + 1) pc L (as.reverse ++ .ref (eAd E 0) :: st) τ ζ Q := by
  intro p e s m args below meth c H locs ls X
  obtain ⟨x1, x2, x3, x4, x5, x6, x7, x8, x9, x10⟩ := id X
  obtain ⟨⟨ws', hw⟩, hdn, h45⟩ := hk
  subst ho
  refine R_back (k2 := k2) (as := .ref (eAd E 0) :: as) X (va_runV (As := as) (rest := st) ⟨x1, x2, x3, x7, x6⟩ K (cwV n x6 g hw rfl rfl ⟨rfl, hdn⟩ ⟨Nat.le_refl _, by show 8 + (k2.2.2.2.1 + 11) + 64 * d ≤ 64 * (d + 1); omega⟩) ⟨C_blind, va_recv x8.1 x8.2.1 hci (wd_get h0), fun U hU hW => ⟨rfl, va_K.moved hW.alike x8.1, by rw [hU]; exact x8.2.1, x8.2.2⟩⟩ rfl hn x10.1 rfl (lv_room hst) hd ⟨Nat.zero_le _, Nat.zero_le _⟩) (fun v τ' ζ' h => h)
theorem R_callS {k2 : Mt} {own : String} {idx n : Nat} {as : List Value} (hd : decode k.2.2.1 pc = .ok (.invokestatic idx, 3)) (ho : k.1.cls = own) (g : GoodIn k.2.1 (va_wsS own idx k2.1 k2.2.1)) (hk : Kok k2 n) (hn : as.length = n)
    (hst : (st.map fun v => v.category).sum ≤ 8) (K : C E G k2 d as τ ζ (fun v τ' ζ' => R E G k (d + 1) (pc + 3) L (v.toList ++ st) τ' ζ' Q)) : R E G k (d + 1) pc L (as.reverse ++ st) τ ζ Q := by
  intro p e s m args below meth c H locs ls X
  obtain ⟨x1, x2, x3, x4, x5, x6, x7, x8, x9, x10⟩ := id X
  obtain ⟨⟨ws', hw⟩, hdn, h45⟩ := hk
  subst ho
  refine R_back (k2 := k2) (as := as) X (va_runS (As := as) (rest := st) ⟨x1, x2, x3, x7, x6⟩ K (va_cwS n x6 g hw rfl rfl hdn ⟨Nat.le_refl _, by show 8 + (k2.2.2.2.1 + 11) + 64 * d ≤ 64 * (d + 1); omega⟩) ⟨C_blind, fun U hU hW => ⟨rfl, va_K.moved hW.alike x8.1, by rw [hU]; exact x8.2.1, x8.2.2⟩⟩ rfl hn x10.1 rfl (lv_room hst) hd ⟨Nat.zero_le _, Nat.zero_le _⟩) (fun v τ' ζ' h => h)

theorem R_mmax {idx : Nat} {a b : Int} (hr : (-2147483648 ≤ a ∧ a < 2147483648) ∧ (-2147483648 ≤ b ∧ b < 2147483648)) (hd : decode k.2.2.1 pc = .ok (.invokestatic idx, 3)) (h1 : Cond.methodLink k.1.cls idx Lib.Math.max.name ∈ k.2.1) (h2 : Cond.static Lib.Math.max.name ∈ k.2.1) (h3 : Cond.initialized "java/lang/Math" ∈ k.2.1) (h4 : Cond.code Lib.Math.max.name Lib.Math.max.code 2 (some .int) ∈ k.2.1)
    (hst : (st.map fun v => v.category).sum ≤ 8) (K : R E G k (d + 1) (pc + 3) L (.int (zI (max a b)) :: st) τ ζ Q) : R E G k (d + 1) pc L (.int (zI b) :: .int (zI a) :: st) τ ζ Q := by
  intro p e s m args below meth c H locs ls X
  obtain ⟨x1, x2, x3, x4, x5, x6, x7, x8, x9, x10⟩ := id X
  refine va_mmax x1 x2 (x3.trans x10.1.symm) x7 (x6 _ h1) (x6 _ h2) (x6 _ h3) (x6 _ h4) (Nat.le_add_left 1 d) (by show _ + 13 ≤ 64 * (d + 1); omega) (Nat.zero_le _) (Nat.zero_le _) hd ?_
  have ee : (if zI a < zI b then zI b else zI a) = zI (max a b) := by
    by_cases h : a < b
    · rw [if_pos ((zI_lt hr).mpr h)]
      congr 1
      omega
    · rw [if_neg (fun q => h ((zI_lt hr).mp q))]
      congr 1
      omega
  rw [ee]
  exact K p e s m args below meth c H locs ls X
theorem R_mmin {idx : Nat} {a b : Int} (hr : (-2147483648 ≤ a ∧ a < 2147483648) ∧ (-2147483648 ≤ b ∧ b < 2147483648)) (hd : decode k.2.2.1 pc = .ok (.invokestatic idx, 3)) (h1 : Cond.methodLink k.1.cls idx Lib.Math.min.name ∈ k.2.1) (h2 : Cond.static Lib.Math.min.name ∈ k.2.1) (h3 : Cond.initialized "java/lang/Math" ∈ k.2.1) (h4 : Cond.code Lib.Math.min.name Lib.Math.min.code 2 (some .int) ∈ k.2.1)
    (hst : (st.map fun v => v.category).sum ≤ 8) (K : R E G k (d + 1) (pc + 3) L (.int (zI (min a b)) :: st) τ ζ Q) : R E G k (d + 1) pc L (.int (zI b) :: .int (zI a) :: st) τ ζ Q := by
  intro p e s m args below meth c H locs ls X
  obtain ⟨x1, x2, x3, x4, x5, x6, x7, x8, x9, x10⟩ := id X
  refine va_mmin x1 x2 (x3.trans x10.1.symm) x7 (x6 _ h1) (x6 _ h2) (x6 _ h3) (x6 _ h4) (Nat.le_add_left 1 d) (by show _ + 13 ≤ 64 * (d + 1); omega) (Nat.zero_le _) (Nat.zero_le _) hd ?_
  have ee : (if zI b < zI a then zI b else zI a) = zI (min a b) := by
    by_cases h : b < a
    · rw [if_pos ((zI_lt ⟨hr.2, hr.1⟩).mpr h)]
      congr 1
      omega
    · rw [if_neg (fun q => h ((zI_lt ⟨hr.2, hr.1⟩).mp q))]
      congr 1
      omega
  rw [ee]
  exact K p e s m args below meth c H locs ls X
theorem R_callV0 {k2 : Mt} {own : String} {idx : Nat} (hd : decode k.2.2.1 pc = .ok (.invokevirtual idx, 3)) (ho : k.1.cls = own) (g : GoodIn k.2.1 (wsV own idx k2.1.cls k2.1 k2.2.1)) (hk : Kok k2 0) (hci : vwCl[G.2.2.2.2.2.2]? = some (k2.1.cls, G.2.2.2.2.1, G.2.2.2.2.2.1)) {fs : List Nat} (h0 : G.2.1[0]? = some (.inl (G.2.2.2.2.2.2, fs)))
    (hst : (st.map fun v => v.category).sum ≤ 8) (K : C E G k2 d (.ref (eAd E 0) :: []) τ ζ (fun v τ' ζ' => R E G k (d + 1) (pc + 3) L (v.toList ++ st) τ' ζ' Q)) : R E G k (d + 1) pc L (.ref (eAd E 0) :: st) τ ζ Q :=
  R_callV (as := []) hd ho g hk rfl hci h0 hst K
theorem R_callS0 {k2 : Mt} {own : String} {idx : Nat} (hd : decode k.2.2.1 pc = .ok (.invokestatic idx, 3)) (ho : k.1.cls = own) (g : GoodIn k.2.1 (va_wsS own idx k2.1 k2.2.1)) (hk : Kok k2 0)
    (hst : (st.map fun v => v.category).sum ≤ 8) (K : C E G k2 d [] τ ζ (fun v τ' ζ' => R E G k (d + 1) (pc + 3) L (v.toList ++ st) τ' ζ' Q)) : R E G k (d + 1) pc L (st) τ ζ Q :=
  R_callS (as := []) hd ho g hk rfl hst K
theorem R_callV1 {k2 : Mt} {own : String} {idx : Nat} {v1 : Value} (hd : decode k.2.2.1 pc = .ok (.invokevirtual idx, 3)) (ho : k.1.cls = own) (g : GoodIn k.2.1 (wsV own idx k2.1.cls k2.1 k2.2.1)) (hk : Kok k2 1) (hci : vwCl[G.2.2.2.2.2.2]? = some (k2.1.cls, G.2.2.2.2.1, G.2.2.2.2.2.1)) {fs : List Nat} (h0 : G.2.1[0]? = some (.inl (G.2.2.2.2.2.2, fs)))
    (hst : (st.map fun v => v.category).sum ≤ 8) (K : C E G k2 d (.ref (eAd E 0) :: [v1]) τ ζ (fun v τ' ζ' => R E G k (d + 1) (pc + 3) L (v.toList ++ st) τ' ζ' Q)) : R E G k (d + 1) pc L (v1 :: .ref (eAd E 0) :: st) τ ζ Q :=
  R_callV (as := [v1]) hd ho g hk rfl hci h0 hst K
theorem R_callS1 {k2 : Mt} {own : String} {idx : Nat} {v1 : Value} (hd : decode k.2.2.1 pc = .ok (.invokestatic idx, 3)) (ho : k.1.cls = own) (g : GoodIn k.2.1 (va_wsS own idx k2.1 k2.2.1)) (hk : Kok k2 1)
    (hst : (st.map fun v => v.category).sum ≤ 8) (K : C E G k2 d [v1] τ ζ (fun v τ' ζ' => R E G k (d + 1) (pc + 3) L (v.toList ++ st) τ' ζ' Q)) : R E G k (d + 1) pc L (v1 :: st) τ ζ Q :=
  R_callS (as := [v1]) hd ho g hk rfl hst K
theorem R_callV2 {k2 : Mt} {own : String} {idx : Nat} {v1 v2 : Value} (hd : decode k.2.2.1 pc = .ok (.invokevirtual idx, 3)) (ho : k.1.cls = own) (g : GoodIn k.2.1 (wsV own idx k2.1.cls k2.1 k2.2.1)) (hk : Kok k2 2) (hci : vwCl[G.2.2.2.2.2.2]? = some (k2.1.cls, G.2.2.2.2.1, G.2.2.2.2.2.1)) {fs : List Nat} (h0 : G.2.1[0]? = some (.inl (G.2.2.2.2.2.2, fs)))
    (hst : (st.map fun v => v.category).sum ≤ 8) (K : C E G k2 d (.ref (eAd E 0) :: [v1, v2]) τ ζ (fun v τ' ζ' => R E G k (d + 1) (pc + 3) L (v.toList ++ st) τ' ζ' Q)) : R E G k (d + 1) pc L (v2 :: v1 :: .ref (eAd E 0) :: st) τ ζ Q :=
  R_callV (as := [v1, v2]) hd ho g hk rfl hci h0 hst K
theorem R_callS2 {k2 : Mt} {own : String} {idx : Nat} {v1 v2 : Value} (hd : decode k.2.2.1 pc = .ok (.invokestatic idx, 3)) (ho : k.1.cls = own) (g : GoodIn k.2.1 (va_wsS own idx k2.1 k2.2.1)) (hk : Kok k2 2)
    (hst : (st.map fun v => v.category).sum ≤ 8) (K : C E G k2 d [v1, v2] τ ζ (fun v τ' ζ' => R E G k (d + 1) (pc + 3) L (v.toList ++ st) τ' ζ' Q)) : R E G k (d + 1) pc L (v2 :: v1 :: st) τ ζ Q :=
  R_callS (as := [v1, v2]) hd ho g hk rfl hst K
theorem R_callV3 {k2 : Mt} {own : String} {idx : Nat} {v1 v2 v3 : Value} (hd : decode k.2.2.1 pc = .ok (.invokevirtual idx, 3)) (ho : k.1.cls = own) (g : GoodIn k.2.1 (wsV own idx k2.1.cls k2.1 k2.2.1)) (hk : Kok k2 3) (hci : vwCl[G.2.2.2.2.2.2]? = some (k2.1.cls, G.2.2.2.2.1, G.2.2.2.2.2.1)) {fs : List Nat} (h0 : G.2.1[0]? = some (.inl (G.2.2.2.2.2.2, fs)))
    (hst : (st.map fun v => v.category).sum ≤ 8) (K : C E G k2 d (.ref (eAd E 0) :: [v1, v2, v3]) τ ζ (fun v τ' ζ' => R E G k (d + 1) (pc + 3) L (v.toList ++ st) τ' ζ' Q)) : R E G k (d + 1) pc L (v3 :: v2 :: v1 :: .ref (eAd E 0) :: st) τ ζ Q :=
  R_callV (as := [v1, v2, v3]) hd ho g hk rfl hci h0 hst K
theorem R_callS3 {k2 : Mt} {own : String} {idx : Nat} {v1 v2 v3 : Value} (hd : decode k.2.2.1 pc = .ok (.invokestatic idx, 3)) (ho : k.1.cls = own) (g : GoodIn k.2.1 (va_wsS own idx k2.1 k2.2.1)) (hk : Kok k2 3)
    (hst : (st.map fun v => v.category).sum ≤ 8) (K : C E G k2 d [v1, v2, v3] τ ζ (fun v τ' ζ' => R E G k (d + 1) (pc + 3) L (v.toList ++ st) τ' ζ' Q)) : R E G k (d + 1) pc L (v3 :: v2 :: v1 :: st) τ ζ Q :=
  R_callS (as := [v1, v2, v3]) hd ho g hk rfl hst K
theorem R_callV4 {k2 : Mt} {own : String} {idx : Nat} {v1 v2 v3 v4 : Value} (hd : decode k.2.2.1 pc = .ok (.invokevirtual idx, 3)) (ho : k.1.cls = own) (g : GoodIn k.2.1 (wsV own idx k2.1.cls k2.1 k2.2.1)) (hk : Kok k2 4) (hci : vwCl[G.2.2.2.2.2.2]? = some (k2.1.cls, G.2.2.2.2.1, G.2.2.2.2.2.1)) {fs : List Nat} (h0 : G.2.1[0]? = some (.inl (G.2.2.2.2.2.2, fs)))
    (hst : (st.map fun v => v.category).sum ≤ 8) (K : C E G k2 d (.ref (eAd E 0) :: [v1, v2, v3, v4]) τ ζ (fun v τ' ζ' => R E G k (d + 1) (pc + 3) L (v.toList ++ st) τ' ζ' Q)) : R E G k (d + 1) pc L (v4 :: v3 :: v2 :: v1 :: .ref (eAd E 0) :: st) τ ζ Q :=
  R_callV (as := [v1, v2, v3, v4]) hd ho g hk rfl hci h0 hst K
theorem R_callS4 {k2 : Mt} {own : String} {idx : Nat} {v1 v2 v3 v4 : Value} (hd : decode k.2.2.1 pc = .ok (.invokestatic idx, 3)) (ho : k.1.cls = own) (g : GoodIn k.2.1 (va_wsS own idx k2.1 k2.2.1)) (hk : Kok k2 4)
    (hst : (st.map fun v => v.category).sum ≤ 8) (K : C E G k2 d [v1, v2, v3, v4] τ ζ (fun v τ' ζ' => R E G k (d + 1) (pc + 3) L (v.toList ++ st) τ' ζ' Q)) : R E G k (d + 1) pc L (v4 :: v3 :: v2 :: v1 :: st) τ ζ Q :=
  R_callS (as := [v1, v2, v3, v4]) hd ho g hk rfl hst K
theorem R_callV5 {k2 : Mt} {own : String} {idx : Nat} {v1 v2 v3 v4 v5 : Value} (hd : decode k.2.2.1 pc = .ok (.invokevirtual idx, 3)) (ho : k.1.cls = own) (g : GoodIn k.2.1 (wsV own idx k2.1.cls k2.1 k2.2.1)) (hk : Kok k2 5) (hci : vwCl[G.2.2.2.2.2.2]? = some (k2.1.cls, G.2.2.2.2.1, G.2.2.2.2.2.1)) {fs : List Nat} (h0 : G.2.1[0]? = some (.inl (G.2.2.2.2.2.2, fs)))
    (hst : (st.map fun v => v.category).sum ≤ 8) (K : C E G k2 d (.ref (eAd E 0) :: [v1, v2, v3, v4, v5]) τ ζ (fun v τ' ζ' => R E G k (d + 1) (pc + 3) L (v.toList ++ st) τ' ζ' Q)) : R E G k (d + 1) pc L (v5 :: v4 :: v3 :: v2 :: v1 :: .ref (eAd E 0) :: st) τ ζ Q :=
  R_callV (as := [v1, v2, v3, v4, v5]) hd ho g hk rfl hci h0 hst K
theorem R_callS5 {k2 : Mt} {own : String} {idx : Nat} {v1 v2 v3 v4 v5 : Value} (hd : decode k.2.2.1 pc = .ok (.invokestatic idx, 3)) (ho : k.1.cls = own) (g : GoodIn k.2.1 (va_wsS own idx k2.1 k2.2.1)) (hk : Kok k2 5)
    (hst : (st.map fun v => v.category).sum ≤ 8) (K : C E G k2 d [v1, v2, v3, v4, v5] τ ζ (fun v τ' ζ' => R E G k (d + 1) (pc + 3) L (v.toList ++ st) τ' ζ' Q)) : R E G k (d + 1) pc L (v5 :: v4 :: v3 :: v2 :: v1 :: st) τ ζ Q :=
  R_callS (as := [v1, v2, v3, v4, v5]) hd ho g hk rfl hst K
end RR

/-! rows of my own over the kit's: loops and cuts, numbers as nI, calls that read -/
theorem sg_i0 {a b : Int32} {X Y : Int} (hX : a.toInt = X) (hY : b.toInt = Y) : a < b ↔ X < Y := by rw [Int32.lt_iff_toInt_lt, hX, hY]
theorem sg_i1 {a b : Int32} {X Y : Int} (hX : a.toInt = X) (hY : b.toInt = Y) : a ≤ b ↔ X ≤ Y := by rw [Int32.le_iff_toInt_le, hX, hY]
theorem sg_i2 {a b : Int32} {X Y : Int} (hX : a.toInt = X) (hY : b.toInt = Y) : a = b ↔ X = Y := by rw [← Int32.toInt_inj, hX, hY]
theorem sg_z : (0 : Int32).toInt = 0 := rfl
theorem sg_n {n : Nat} (h : n < 2 ^ 31) : (nI n).toInt = (n : Int) := nI_toInt h
theorem sg_inc (a : Nat) : nI a + Int32.ofInt 1 = nI (a + 1) := (nI_succ a).symm
theorem sg_dec (a : Nat) : nI (a + 1) + Int32.ofInt (-1) = nI a := pk_m1 a
theorem sg_cl {j : Nat} (h : j < 2 ^ 31) : (nI j).toNatClampNeg = j := nI_clamp h
theorem sg_lne0 {n : Nat} (h0 : 0 < n) (h : n < 2 ^ 63) : ¬ lN n = 0 := by
  intro q
  have a := pk_lT h
  rw [q, show (0 : Int64).toInt = 0 from rfl] at a
  omega
/-- a boolean answer -/
noncomputable def bI (P : Prop) : Int32 := @ite _ P (Classical.propDecidable P) (nI 1) (nI 0)
theorem bI_t {P : Prop} (h : P) : bI P = nI 1 := if_pos h
theorem bI_f {P : Prop} (h : ¬ P) : bI P = nI 0 := if_neg h
theorem bI_iff {P P' : Prop} (h : P ↔ P') : bI P = bI P' := by rw [propext h]
theorem bI_nar (P : Prop) : narrow .boolean (.int (bI P)) = .int (bI P) := by
  by_cases h : P
  · rw [bI_t h]; rfl
  · rw [bI_f h]; rfl
section SG
variable {p : Program} {l : Launch} {e : Env} {R : Room} {s : State} {m : MethodId} {args : Array Value} {below : List Frame} {meth : Method} {c : Code} {H : Heap} {locs : List Loc} {cells slots : Nat} {Q : State → Prop} {cc : ByteArray} {pc : Nat} {ls : Array Slot} {rest : List Value}
/-- a loop that may write: the invariant speaks of locals and heap, at a number that falls -/
theorem sw_loop (I : Nat → Array Slot → Heap → List Loc → Prop)
    (step : ∀ (k : Nat) (ls : Array Slot) (H : Heap) (locs : List Loc), I k ls H locs → (∀ (k' : Nat) (ls' : Array Slot) (H' : Heap) (locs' : List Loc), I k' ls' H' locs' → k' < k → W p l e R s m args below meth c H' locs' cells slots Q (F0 m pc ls' [])) → W p l e R s m args below meth c H locs cells slots Q (F0 m pc ls []))
    (k : Nat) (h : I k ls H locs) : W p l e R s m args below meth c H locs cells slots Q (F0 m pc ls []) := by
  have key : ∀ (n : Nat) (k : Nat) (ls : Array Slot) (H : Heap) (locs : List Loc), k < n → I k ls H locs → W p l e R s m args below meth c H locs cells slots Q (F0 m pc ls []) := by
    intro n
    induction n with
    | zero => intro k ls H locs hn _; exact absurd hn (Nat.not_lt_zero _)
    | succ n ih =>
      intro k ls H locs hn hI
      exact step k ls H locs hI (fun k' ls' H' locs' hI' hlt => ih k' ls' H' locs' (Nat.lt_of_lt_of_le hlt (Nat.le_of_lt_succ hn)) hI')
  exact key (k + 1) k ls H locs (Nat.lt_succ_self _) h
/-- a loop that only reads -/
theorem sw_loopR (I : Nat → Array Slot → Prop)
    (step : ∀ (k : Nat) (ls : Array Slot), I k ls → (∀ (k' : Nat) (ls' : Array Slot), I k' ls' → k' < k → W p l e R s m args below meth c H locs cells slots Q (F0 m pc ls' [])) → W p l e R s m args below meth c H locs cells slots Q (F0 m pc ls []))
    (k : Nat) (h : I k ls) : W p l e R s m args below meth c H locs cells slots Q (F0 m pc ls []) := by
  have key : ∀ (n : Nat) (k : Nat) (ls : Array Slot), k < n → I k ls → W p l e R s m args below meth c H locs cells slots Q (F0 m pc ls []) := by
    intro n
    induction n with
    | zero => intro k ls hn _; exact absurd hn (Nat.not_lt_zero _)
    | succ n ih =>
      intro k ls hn hI
      exact step k ls hI (fun k' ls' hI' hlt => ih k' ls' (Nat.lt_of_lt_of_le hlt (Nat.le_of_lt_succ hn)) hI')
  exact key (k + 1) k ls (Nat.lt_succ_self _) h
/-- a place where ways meet -/
theorem sw_cut {g : JFrame} (pc' : Nat) (I : List Value → Array Slot → Heap → List Loc → Prop)
    (body : ∀ (st : List Value) (ls : Array Slot) (H : Heap) (locs : List Loc), I st ls H locs → W p l e R s m args below meth c H locs cells slots Q (F0 m pc' ls st))
    (k : (∀ (st : List Value) (ls : Array Slot) (H : Heap) (locs : List Loc), I st ls H locs → W p l e R s m args below meth c H locs cells slots Q (F0 m pc' ls st)) → W p l e R s m args below meth c H locs cells slots Q g) : W p l e R s m args below meth c H locs cells slots Q g := k body
/-- the same, the heap as it is -/
theorem sw_cutR {g : JFrame} (pc' : Nat) (I : List Value → Array Slot → Prop)
    (body : ∀ (st : List Value) (ls : Array Slot), I st ls → W p l e R s m args below meth c H locs cells slots Q (F0 m pc' ls st))
    (k : (∀ (st : List Value) (ls : Array Slot), I st ls → W p l e R s m args below meth c H locs cells slots Q (F0 m pc' ls st)) → W p l e R s m args below meth c H locs cells slots Q g) : W p l e R s m args below meth c H locs cells slots Q g := k body
theorem sw_st {st st' : List Value} (h : st = st') (k : W p l e R s m args below meth c H locs cells slots Q (F0 m pc ls st')) : W p l e R s m args below meth c H locs cells slots Q (F0 m pc ls st) := h ▸ k
theorem sw_i {x y : Int32} (h : x = y) (k : W p l e R s m args below meth c H locs cells slots Q (F0 m pc ls (.int y :: rest))) : W p l e R s m args below meth c H locs cells slots Q (F0 m pc ls (.int x :: rest)) := h ▸ k
theorem sw_l {x y : Int64} (h : x = y) (k : W p l e R s m args below meth c H locs cells slots Q (F0 m pc ls (.long y :: rest))) : W p l e R s m args below meth c H locs cells slots Q (F0 m pc ls (.long x :: rest)) := h ▸ k
theorem ci_icmp_lt (hexec : p.tables.exec = Jvm.exec) (hb : c.code = cc) {x y : Int32} {X Y : Int} {off : Int} {tgt : Nat} (hX : x.toInt = X) (hY : y.toInt = Y) (hdg : decode cc pc = .ok (.if_icmp .lt off, 3)) (ht : (pc : Int) + off = (tgt : Int)) (kt : X < Y → W p l e R s m args below meth c H locs cells slots Q (F0 m tgt ls rest)) (kf : Y ≤ X → W p l e R s m args below meth c H locs cells slots Q (F0 m (pc + 3) ls rest)) : W p l e R s m args below meth c H locs cells slots Q (F0 m pc ls (.int y :: .int x :: rest)) :=
  lv_icmp_lt hexec hb hdg ht (fun h => kt ((sg_i0 hX hY).mp h)) (fun h => kf (by have := mt (sg_i0 hX hY).mpr h; omega))
theorem ci_if_lt (hexec : p.tables.exec = Jvm.exec) (hb : c.code = cc) {x : Int32} {X : Int} {off : Int} {tgt : Nat} (hX : x.toInt = X) (hdg : decode cc pc = .ok (.ifCond .lt off, 3)) (ht : (pc : Int) + off = (tgt : Int)) (kt : X < (0 : Int) → W p l e R s m args below meth c H locs cells slots Q (F0 m tgt ls rest)) (kf : (0 : Int) ≤ X → W p l e R s m args below meth c H locs cells slots Q (F0 m (pc + 3) ls rest)) : W p l e R s m args below meth c H locs cells slots Q (F0 m pc ls (.int x :: rest)) :=
  lv_if_lt hexec hb hdg ht (fun h => kt ((sg_i0 hX sg_z).mp h)) (fun h => kf (by have := mt (sg_i0 hX sg_z).mpr h; omega))
theorem ci_icmp_ge (hexec : p.tables.exec = Jvm.exec) (hb : c.code = cc) {x y : Int32} {X Y : Int} {off : Int} {tgt : Nat} (hX : x.toInt = X) (hY : y.toInt = Y) (hdg : decode cc pc = .ok (.if_icmp .ge off, 3)) (ht : (pc : Int) + off = (tgt : Int)) (kt : Y ≤ X → W p l e R s m args below meth c H locs cells slots Q (F0 m tgt ls rest)) (kf : X < Y → W p l e R s m args below meth c H locs cells slots Q (F0 m (pc + 3) ls rest)) : W p l e R s m args below meth c H locs cells slots Q (F0 m pc ls (.int y :: .int x :: rest)) :=
  lv_icmp_ge hexec hb hdg ht (fun h => kt ((sg_i1 hY hX).mp h)) (fun h => kf (by have := mt (sg_i1 hY hX).mpr h; omega))
theorem ci_if_ge (hexec : p.tables.exec = Jvm.exec) (hb : c.code = cc) {x : Int32} {X : Int} {off : Int} {tgt : Nat} (hX : x.toInt = X) (hdg : decode cc pc = .ok (.ifCond .ge off, 3)) (ht : (pc : Int) + off = (tgt : Int)) (kt : (0 : Int) ≤ X → W p l e R s m args below meth c H locs cells slots Q (F0 m tgt ls rest)) (kf : X < (0 : Int) → W p l e R s m args below meth c H locs cells slots Q (F0 m (pc + 3) ls rest)) : W p l e R s m args below meth c H locs cells slots Q (F0 m pc ls (.int x :: rest)) :=
  lv_if_ge hexec hb hdg ht (fun h => kt ((sg_i1 sg_z hX).mp h)) (fun h => kf (by have := mt (sg_i1 sg_z hX).mpr h; omega))
theorem ci_icmp_gt (hexec : p.tables.exec = Jvm.exec) (hb : c.code = cc) {x y : Int32} {X Y : Int} {off : Int} {tgt : Nat} (hX : x.toInt = X) (hY : y.toInt = Y) (hdg : decode cc pc = .ok (.if_icmp .gt off, 3)) (ht : (pc : Int) + off = (tgt : Int)) (kt : Y < X → W p l e R s m args below meth c H locs cells slots Q (F0 m tgt ls rest)) (kf : X ≤ Y → W p l e R s m args below meth c H locs cells slots Q (F0 m (pc + 3) ls rest)) : W p l e R s m args below meth c H locs cells slots Q (F0 m pc ls (.int y :: .int x :: rest)) :=
  lv_icmp_gt hexec hb hdg ht (fun h => kt ((sg_i0 hY hX).mp h)) (fun h => kf (by have := mt (sg_i0 hY hX).mpr h; omega))
theorem ci_if_gt (hexec : p.tables.exec = Jvm.exec) (hb : c.code = cc) {x : Int32} {X : Int} {off : Int} {tgt : Nat} (hX : x.toInt = X) (hdg : decode cc pc = .ok (.ifCond .gt off, 3)) (ht : (pc : Int) + off = (tgt : Int)) (kt : (0 : Int) < X → W p l e R s m args below meth c H locs cells slots Q (F0 m tgt ls rest)) (kf : X ≤ (0 : Int) → W p l e R s m args below meth c H locs cells slots Q (F0 m (pc + 3) ls rest)) : W p l e R s m args below meth c H locs cells slots Q (F0 m pc ls (.int x :: rest)) :=
  lv_if_gt hexec hb hdg ht (fun h => kt ((sg_i0 sg_z hX).mp h)) (fun h => kf (by have := mt (sg_i0 sg_z hX).mpr h; omega))
theorem ci_icmp_le (hexec : p.tables.exec = Jvm.exec) (hb : c.code = cc) {x y : Int32} {X Y : Int} {off : Int} {tgt : Nat} (hX : x.toInt = X) (hY : y.toInt = Y) (hdg : decode cc pc = .ok (.if_icmp .le off, 3)) (ht : (pc : Int) + off = (tgt : Int)) (kt : X ≤ Y → W p l e R s m args below meth c H locs cells slots Q (F0 m tgt ls rest)) (kf : Y < X → W p l e R s m args below meth c H locs cells slots Q (F0 m (pc + 3) ls rest)) : W p l e R s m args below meth c H locs cells slots Q (F0 m pc ls (.int y :: .int x :: rest)) :=
  lv_icmp_le hexec hb hdg ht (fun h => kt ((sg_i1 hX hY).mp h)) (fun h => kf (by have := mt (sg_i1 hX hY).mpr h; omega))
theorem ci_if_le (hexec : p.tables.exec = Jvm.exec) (hb : c.code = cc) {x : Int32} {X : Int} {off : Int} {tgt : Nat} (hX : x.toInt = X) (hdg : decode cc pc = .ok (.ifCond .le off, 3)) (ht : (pc : Int) + off = (tgt : Int)) (kt : X ≤ (0 : Int) → W p l e R s m args below meth c H locs cells slots Q (F0 m tgt ls rest)) (kf : (0 : Int) < X → W p l e R s m args below meth c H locs cells slots Q (F0 m (pc + 3) ls rest)) : W p l e R s m args below meth c H locs cells slots Q (F0 m pc ls (.int x :: rest)) :=
  lv_if_le hexec hb hdg ht (fun h => kt ((sg_i1 hX sg_z).mp h)) (fun h => kf (by have := mt (sg_i1 hX sg_z).mpr h; omega))
theorem ci_icmp_eq (hexec : p.tables.exec = Jvm.exec) (hb : c.code = cc) {x y : Int32} {X Y : Int} {off : Int} {tgt : Nat} (hX : x.toInt = X) (hY : y.toInt = Y) (hdg : decode cc pc = .ok (.if_icmp .eq off, 3)) (ht : (pc : Int) + off = (tgt : Int)) (kt : X = Y → W p l e R s m args below meth c H locs cells slots Q (F0 m tgt ls rest)) (kf : X ≠ Y → W p l e R s m args below meth c H locs cells slots Q (F0 m (pc + 3) ls rest)) : W p l e R s m args below meth c H locs cells slots Q (F0 m pc ls (.int y :: .int x :: rest)) :=
  lv_icmp_eq hexec hb hdg ht (fun h => kt ((sg_i2 hX hY).mp h)) (fun h => kf (mt (sg_i2 hX hY).mpr h))
theorem ci_if_eq (hexec : p.tables.exec = Jvm.exec) (hb : c.code = cc) {x : Int32} {X : Int} {off : Int} {tgt : Nat} (hX : x.toInt = X) (hdg : decode cc pc = .ok (.ifCond .eq off, 3)) (ht : (pc : Int) + off = (tgt : Int)) (kt : X = (0 : Int) → W p l e R s m args below meth c H locs cells slots Q (F0 m tgt ls rest)) (kf : X ≠ (0 : Int) → W p l e R s m args below meth c H locs cells slots Q (F0 m (pc + 3) ls rest)) : W p l e R s m args below meth c H locs cells slots Q (F0 m pc ls (.int x :: rest)) :=
  lv_if_eq hexec hb hdg ht (fun h => kt ((sg_i2 hX sg_z).mp h)) (fun h => kf (mt (sg_i2 hX sg_z).mpr h))
theorem ci_icmp_ne (hexec : p.tables.exec = Jvm.exec) (hb : c.code = cc) {x y : Int32} {X Y : Int} {off : Int} {tgt : Nat} (hX : x.toInt = X) (hY : y.toInt = Y) (hdg : decode cc pc = .ok (.if_icmp .ne off, 3)) (ht : (pc : Int) + off = (tgt : Int)) (kt : X ≠ Y → W p l e R s m args below meth c H locs cells slots Q (F0 m tgt ls rest)) (kf : X = Y → W p l e R s m args below meth c H locs cells slots Q (F0 m (pc + 3) ls rest)) : W p l e R s m args below meth c H locs cells slots Q (F0 m pc ls (.int y :: .int x :: rest)) :=
  lv_icmp_ne hexec hb hdg ht (fun h => kt (mt (sg_i2 hX hY).mpr h)) (fun h => kf ((sg_i2 hX hY).mp h))
theorem ci_if_ne (hexec : p.tables.exec = Jvm.exec) (hb : c.code = cc) {x : Int32} {X : Int} {off : Int} {tgt : Nat} (hX : x.toInt = X) (hdg : decode cc pc = .ok (.ifCond .ne off, 3)) (ht : (pc : Int) + off = (tgt : Int)) (kt : X ≠ (0 : Int) → W p l e R s m args below meth c H locs cells slots Q (F0 m tgt ls rest)) (kf : X = (0 : Int) → W p l e R s m args below meth c H locs cells slots Q (F0 m (pc + 3) ls rest)) : W p l e R s m args below meth c H locs cells slots Q (F0 m pc ls (.int x :: rest)) :=
  lv_if_ne hexec hb hdg ht (fun h => kt (mt (sg_i2 hX sg_z).mpr h)) (fun h => kf ((sg_i2 hX sg_z).mp h))
theorem n_iadd (hexec : p.tables.exec = Jvm.exec) (hb : c.code = cc) {a b : Nat} (hdg : decode cc pc = .ok (.iadd, 1)) (k : W p l e R s m args below meth c H locs cells slots Q (F0 m (pc + 1) ls (.int (nI (a + b)) :: rest))) : W p l e R s m args below meth c H locs cells slots Q (F0 m pc ls (.int (nI b) :: .int (nI a) :: rest)) :=
  lv_iadd hexec hb hdg (sw_i (nI_add a b) k)
theorem n_imul (hexec : p.tables.exec = Jvm.exec) (hb : c.code = cc) {a b : Nat} (hdg : decode cc pc = .ok (.imul, 1)) (k : W p l e R s m args below meth c H locs cells slots Q (F0 m (pc + 1) ls (.int (nI (a * b)) :: rest))) : W p l e R s m args below meth c H locs cells slots Q (F0 m pc ls (.int (nI b) :: .int (nI a) :: rest)) :=
  lv_imul hexec hb hdg (sw_i (pk_mul a b) k)
theorem n_isub (hexec : p.tables.exec = Jvm.exec) (hb : c.code = cc) {a b : Nat} (hdg : decode cc pc = .ok (.isub, 1)) (h : b ≤ a) (k : W p l e R s m args below meth c H locs cells slots Q (F0 m (pc + 1) ls (.int (nI (a - b)) :: rest))) : W p l e R s m args below meth c H locs cells slots Q (F0 m pc ls (.int (nI b) :: .int (nI a) :: rest)) :=
  lv_isub hexec hb hdg (sw_i (pk_sub h) k)
theorem n_idiv (hexec : p.tables.exec = Jvm.exec) (hb : c.code = cc) {a b : Nat} (hdg : decode cc pc = .ok (.idiv, 1)) (h1 : a < 2 ^ 31) (h0 : 0 < b) (h2 : b < 2 ^ 31) (k : W p l e R s m args below meth c H locs cells slots Q (F0 m (pc + 1) ls (.int (nI (a / b)) :: rest))) : W p l e R s m args below meth c H locs cells slots Q (F0 m pc ls (.int (nI b) :: .int (nI a) :: rest)) :=
  lv_idiv hexec hb hdg (nI_ne0 h0 h2) (sw_i (pk_div h1 h0 h2) k)
theorem n_irem (hexec : p.tables.exec = Jvm.exec) (hb : c.code = cc) {a b : Nat} (hdg : decode cc pc = .ok (.irem, 1)) (h1 : a < 2 ^ 31) (h0 : 0 < b) (h2 : b < 2 ^ 31) (k : W p l e R s m args below meth c H locs cells slots Q (F0 m (pc + 1) ls (.int (nI (a % b)) :: rest))) : W p l e R s m args below meth c H locs cells slots Q (F0 m pc ls (.int (nI b) :: .int (nI a) :: rest)) :=
  lv_irem hexec hb hdg (nI_ne0 h0 h2) (sw_i (pk_rem h1 h0 h2) k)
theorem n_ladd (hexec : p.tables.exec = Jvm.exec) (hb : c.code = cc) {a b : Nat} (hdg : decode cc pc = .ok (.ladd, 1)) (k : W p l e R s m args below meth c H locs cells slots Q (F0 m (pc + 1) ls (.long (lN (a + b)) :: rest))) : W p l e R s m args below meth c H locs cells slots Q (F0 m pc ls (.long (lN b) :: .long (lN a) :: rest)) :=
  lv_ladd hexec hb hdg (sw_l (lN_add a b) k)
theorem n_lmul (hexec : p.tables.exec = Jvm.exec) (hb : c.code = cc) {a b : Nat} (hdg : decode cc pc = .ok (.lmul, 1)) (k : W p l e R s m args below meth c H locs cells slots Q (F0 m (pc + 1) ls (.long (lN (a * b)) :: rest))) : W p l e R s m args below meth c H locs cells slots Q (F0 m pc ls (.long (lN b) :: .long (lN a) :: rest)) :=
  lv_lmul hexec hb hdg (sw_l (lN_mul a b) k)
theorem n_ldiv (hexec : p.tables.exec = Jvm.exec) (hb : c.code = cc) {a b : Nat} (hdg : decode cc pc = .ok (.ldiv, 1)) (h1 : a < 2 ^ 63) (h0 : 0 < b) (h2 : b < 2 ^ 63) (k : W p l e R s m args below meth c H locs cells slots Q (F0 m (pc + 1) ls (.long (lN (a / b)) :: rest))) : W p l e R s m args below meth c H locs cells slots Q (F0 m pc ls (.long (lN b) :: .long (lN a) :: rest)) :=
  lv_ldiv hexec hb hdg (sg_lne0 h0 h2) (sw_l (pk_lDiv h1 h0 h2) k)
theorem n_lrem (hexec : p.tables.exec = Jvm.exec) (hb : c.code = cc) {a b : Nat} (hdg : decode cc pc = .ok (.lrem, 1)) (h1 : a < 2 ^ 63) (h0 : 0 < b) (h2 : b < 2 ^ 63) (k : W p l e R s m args below meth c H locs cells slots Q (F0 m (pc + 1) ls (.long (lN (a % b)) :: rest))) : W p l e R s m args below meth c H locs cells slots Q (F0 m pc ls (.long (lN b) :: .long (lN a) :: rest)) :=
  lv_lrem hexec hb hdg (sg_lne0 h0 h2) (sw_l (pk_lRem h1 h0 h2) k)
theorem n_i2l (hexec : p.tables.exec = Jvm.exec) (hb : c.code = cc) {a : Nat} (h : a < 2 ^ 31) (hdg : decode cc pc = .ok (.i2l, 1)) (k : W p l e R s m args below meth c H locs cells slots Q (F0 m (pc + 1) ls (.long (lN a) :: rest))) : W p l e R s m args below meth c H locs cells slots Q (F0 m pc ls (.int (nI a) :: rest)) := lv_i2l hexec hb hdg (nI_l h) k
theorem n_l2i (hexec : p.tables.exec = Jvm.exec) (hb : c.code = cc) {a : Nat} (hdg : decode cc pc = .ok (.l2i, 1)) (k : W p l e R s m args below meth c H locs cells slots Q (F0 m (pc + 1) ls (.int (nI a) :: rest))) : W p l e R s m args below meth c H locs cells slots Q (F0 m pc ls (.long (lN a) :: rest)) := lv_l2i hexec hb hdg (lN_i a) k
variable {D : va_G} {cl : List vw_C} {tys : List (ClassId × FieldType)} {ws : va_W} {A : Nat → Prop} {H0 : Heap} {a : Nat}
theorem n_iald (hexec : p.tables.exec = Jvm.exec) (hb : c.code = cc) (hK : va_K D cl tys s) (hP : va_P D cl ws H) (q0 t0 : Nat) {cA : ClassId} {n j : Nat} {f : Nat → Int32} {v : Int32} (ha : ws[q0]? = some (a, .inl (cA, n, .inl f))) (ht : tys[t0]? = some (cA, .int)) (hj : j < n) (hn : n < 2 ^ 31) (hv : f j = v) (hdg : decode cc pc = .ok (.iaload, 1)) (k : W p l e R s m args below meth c H locs cells slots Q (F0 m (pc + 1) ls (.int v :: rest))) : W p l e R s m args below meth c H locs cells slots Q (F0 m pc ls (.int (nI j) :: .ref a :: rest)) :=
  va_iald hexec hb hK hP q0 t0 ha ht (vp_in_nI hj hn) hdg (sw_i (by rw [nI_clamp (Nat.lt_trans hj hn)]; exact hv) k)
theorem n_iast (hexec : p.tables.exec = Jvm.exec) (hb : c.code = cc) (hK : va_K D cl tys s) (hP : va_P D cl ws H) (hD : va_D A ws) (hS : va_S A H0 H locs) (q0 t0 : Nat) {cA : ClassId} {n j : Nat} {f : Nat → Int32} {x : Int32} (ha : ws[q0]? = some (a, .inl (cA, n, .inl f))) (ht : tys[t0]? = some (cA, .int)) (hj : j < n) (hn : n < 2 ^ 31) (hdg : decode cc pc = .ok (.iastore, 1)) (k : ∀ (H1 : Heap) (locs1 : List Loc), va_P D cl (ws.set q0 (a, .inl (cA, n, .inl (upd f j x)))) H1 → va_D A (ws.set q0 (a, .inl (cA, n, .inl (upd f j x)))) → va_S A H0 H1 locs1 → W p l e R s m args below meth c H1 locs1 cells slots Q (F0 m (pc + 1) ls rest)) : W p l e R s m args below meth c H locs cells slots Q (F0 m pc ls (.int x :: .int (nI j) :: .ref a :: rest)) :=
  va_iast hexec hb hK hP hD hS q0 t0 ha ht (vp_in_nI hj hn) hdg (by rw [nI_clamp (Nat.lt_trans hj hn)]; exact k)
theorem ci_bne (hexec : p.tables.exec = Jvm.exec) (hb : c.code = cc) {P : Prop} {off : Int} {tgt : Nat} (hdg : decode cc pc = .ok (.ifCond .ne off, 3)) (ht : (pc : Int) + off = (tgt : Int)) (kt : P → W p l e R s m args below meth c H locs cells slots Q (F0 m tgt ls rest)) (kf : ¬ P → W p l e R s m args below meth c H locs cells slots Q (F0 m (pc + 3) ls rest)) : W p l e R s m args below meth c H locs cells slots Q (F0 m pc ls (.int (bI P) :: rest)) := by
  by_cases h : P
  · rw [bI_t h]
    exact lv_if_ne hexec hb hdg ht (fun _ => kt h) (fun q => absurd q (by decide))
  · rw [bI_f h]
    exact lv_if_ne hexec hb hdg ht (fun q => absurd rfl q) (fun _ => kf h)
theorem ci_beq (hexec : p.tables.exec = Jvm.exec) (hb : c.code = cc) {P : Prop} {off : Int} {tgt : Nat} (hdg : decode cc pc = .ok (.ifCond .eq off, 3)) (ht : (pc : Int) + off = (tgt : Int)) (kt : ¬ P → W p l e R s m args below meth c H locs cells slots Q (F0 m tgt ls rest)) (kf : P → W p l e R s m args below meth c H locs cells slots Q (F0 m (pc + 3) ls rest)) : W p l e R s m args below meth c H locs cells slots Q (F0 m pc ls (.int (bI P) :: rest)) := by
  by_cases h : P
  · rw [bI_t h]
    exact lv_if_eq hexec hb hdg ht (fun q => absurd q (by decide)) (fun _ => kf h)
  · rw [bI_f h]
    exact lv_if_eq hexec hb hdg ht (fun _ => kt h) (fun q => absurd rfl q)
end SG

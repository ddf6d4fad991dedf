/-! numbers in parts of 32 bits: the class Natural -/
def dF (X : Nat) : Nat → Int32 := fun j => nI (dg 4294967296 j X)
theorem sg_updlt {f g : Nat → Int32} {i : Nat} {x : Int32} (h : ∀ j, j < i → f j = g j) (hx : x = g i) : ∀ j, j < i + 1 → upd f i x j = g j := by
  intro j hj
  by_cases e : j = i
  · subst e; rw [pk_us]; exact hx
  · rw [pk_un e]; exact h j (by omega)
theorem sg_updge {f g : Nat → Int32} {i : Nat} {x : Int32} (h : ∀ j, i ≤ j → f j = g j) : ∀ j, i + 1 ≤ j → upd f i x j = g j := by
  intro j hj
  rw [pk_un (by omega)]
  exact h j (by omega)
theorem dF_one (i : Nat) : dF 1 i = if i = 0 then nI 1 else nI 0 := by
  unfold dF dg
  by_cases h : i = 0
  · subst h; rfl
  · rw [if_neg h, Nat.div_eq_of_lt (Nat.one_lt_pow h (by decide))]
theorem dF_zero (i : Nat) : dF 0 i = nI 0 := by unfold dF; rw [dg_0]
theorem nI_mod (v : Nat) : nI v = nI (v % 4294967296) := by
  apply Int32.toBitVec_inj.mp
  apply BitVec.eq_of_toNat_eq
  show (BitVec.ofNat 32 v).toNat = (BitVec.ofNat 32 (v % 4294967296)).toNat
  rw [BitVec.toNat_ofNat, BitVec.toNat_ofNat]
  omega
theorem sg_b64 {d f p y : Nat} (hd : d < 4294967296) (hf : f < 4294967296) (hp : p < 4294967296) (hy : y ≤ f) : d * f + p + y < 18446744073709551616 := by
  have h1 : d * f ≤ 4294967295 * 4294967295 := Nat.mul_le_mul (by omega) (by omega)
  omega
def cmpI (x y : Int32) : Int32 := if x.toInt < y.toInt then -1 else if x.toInt = y.toInt then nI 0 else nI 1
def cmpN (a b : Nat) : Int32 := if a < b then -1 else if a = b then nI 0 else nI 1
theorem cmpN_toInt (a b : Nat) : (cmpN a b).toInt = if a < b then (-1 : Int) else if a = b then 0 else 1 := by
  unfold cmpN
  split
  · rfl
  · split <;> rfl
theorem cmpI_N {x y : Int32} {a b : Nat} (hx : x.toInt = (a : Int) - 2147483648) (hy : y.toInt = (b : Int) - 2147483648) : cmpI x y = cmpN a b := by
  unfold cmpI cmpN
  rw [hx, hy]
  by_cases h : a < b
  · rw [if_pos h, if_pos (by omega)]
  · rw [if_neg h, if_neg (by omega)]
    by_cases h2 : a = b
    · rw [if_pos h2, if_pos (by omega)]
    · rw [if_neg h2, if_neg (by omega)]
theorem sg_dec1 {t : Nat} (h : 1 ≤ t) : (nI t - nI 1) + Int32.ofInt (-1) = nI (t - 1) - nI 1 := by
  rw [pk_sub h, Int32.sub_eq_add_neg]
  rfl
set_option maxHeartbeats 4000000 in
set_option maxRecDepth 100000 in
theorem c_part_in (l : Launch) (D : va_G) (cI cO : ClassId) (a : Nat) (pa : Nat) (n : Nat) (f : Nat → Int32) (j : Nat) (hj : j < n) (hn : n < 2147483648) : Met l yX2_part (.code yX2_part cX2_part 2 (some .int) :: sgT) ({ frames := 0, cells := 0, slots := 0, locals := 0 }) (sgPc D cI cO [.ref a, .int (nI j)] [(a, .inr (2, [.ref pa])), (pa, .inl (cI, n, .inl f))]) (vp_Si (fun r => r = f j)) 0 0 (fun _ => False) := by
  refine Met.ofW (cc := cX2_part) (maxL := 2) (ret := (some .int)) (by decide) rfl ?_
  intro pZ eZ sZ mZ argsZ belowZ methZ cZ s₁ BZ hml hv
  obtain ⟨rfl, hP, hK⟩ := hv
  have hx := BZ.exec
  have hb := BZ.bytes
  have hr := BZ.returns
  have hts : ∀ wZ ∈ sgT, wZ.before ([.ref a, .int (nI j)] : List Value).toArray sZ = true := fun wZ h => atoms_spec (ws := (.code yX2_part cX2_part 2 (some .int) :: sgT)) BZ.pre wZ (List.mem_cons_of_mem _ h)
  have hown : sZ.vm.findClass RX2 = some mZ.cls := findClass_of_methodNamed BZ.named
  have hlocks := BZ.notSynchronized
  have hl := lv_entry ([.ref a, .int (nI j)]) (n := 2) (Nat.le_of_ble_eq_true rfl)
  rw [lg_entry_eq]
  generalize (lg_sl ([.ref a, .int (nI j)]) ++ List.replicate (2 - (lg_sl ([.ref a, .int (nI j)])).length) Slot.unset).toArray = ls at hl ⊢
  have hl : lv_has ls 2 [(0, .ref a), (1, .int (nI j))] := hl
  refine lv_iload_n hx hb dX2_part_0 rfl (lv_at hl 1 rfl) ?_
  refine ci_if_lt (X := ((j : Nat) : Int)) (tgt := 22) hx hb (sg_n (by omega)) dX2_part_1 rfl (fun h1 => by exfalso; omega) (fun h1 => ?_)
  refine lv_iload_n hx hb dX2_part_4 rfl (lv_at hl 1 rfl) ?_
  refine lv_aload_n hx hb dX2_part_5 rfl (lv_at hl 0 rfl) ?_
  refine va_get (D := D) (ci := 2) (v := .ref pa) (C := RX2) (T := TX2) (N := 1) hx hb hts hinX2 hown hK.1 hP 0 rfl rfl 0 (by decide) (hts _ fl_X2_7) (fun _ h9 => h9) rfl dX2_part_6 ?_
  refine va_alen (v := nI n) hx hb hK.1 hP 1 0 rfl rfl rfl dX2_part_9 ?_
  refine ci_icmp_ge (X := ((j : Nat) : Int)) (Y := ((n : Nat) : Int)) (tgt := 22) hx hb (sg_n (by omega)) (sg_n (by omega)) dX2_part_10 rfl (fun h10 => by exfalso; omega) (fun h10 => ?_)
  refine lv_aload_n hx hb dX2_part_13 rfl (lv_at hl 0 rfl) ?_
  refine va_get (D := D) (ci := 2) (v := .ref pa) (C := RX2) (T := TX2) (N := 1) hx hb hts hinX2 hown hK.1 hP 0 rfl rfl 0 (by decide) (hts _ fl_X2_7) (fun _ h9 => h9) rfl dX2_part_14 ?_
  refine lv_iload_n hx hb dX2_part_17 rfl (lv_at hl 1 rfl) ?_
  refine n_iald (v := f j) hx hb hK.1 hP 1 0 rfl rfl (by omega) (by omega) rfl dX2_part_18 ?_
  refine lv_goto (tgt := 23) hx hb dX2_part_19 rfl ?_
  exact W.iret hx hb hr (fun tZ ht hW => ⟨_, rfl, rfl, ht⟩) (fun q h => by cases h) dX2_part_23
set_option maxHeartbeats 4000000 in
set_option maxRecDepth 100000 in
theorem c_part_out (l : Launch) (D : va_G) (cI cO : ClassId) (a : Nat) (pa : Nat) (n : Nat) (f : Nat → Int32) (i : Int32) (hi : i.toInt < 0 ∨ (n : Int) ≤ i.toInt) (hn : n < 2147483648) : Met l yX2_part (.code yX2_part cX2_part 2 (some .int) :: sgT) ({ frames := 0, cells := 0, slots := 0, locals := 0 }) (sgPc D cI cO [.ref a, .int i] [(a, .inr (2, [.ref pa])), (pa, .inl (cI, n, .inl f))]) (vp_Si (fun r => r = nI 0)) 0 0 (fun _ => False) := by
  refine Met.ofW (cc := cX2_part) (maxL := 2) (ret := (some .int)) (by decide) rfl ?_
  intro pZ eZ sZ mZ argsZ belowZ methZ cZ s₁ BZ hml hv
  obtain ⟨rfl, hP, hK⟩ := hv
  have hx := BZ.exec
  have hb := BZ.bytes
  have hr := BZ.returns
  have hts : ∀ wZ ∈ sgT, wZ.before ([.ref a, .int i] : List Value).toArray sZ = true := fun wZ h => atoms_spec (ws := (.code yX2_part cX2_part 2 (some .int) :: sgT)) BZ.pre wZ (List.mem_cons_of_mem _ h)
  have hown : sZ.vm.findClass RX2 = some mZ.cls := findClass_of_methodNamed BZ.named
  have hlocks := BZ.notSynchronized
  have hl := lv_entry ([.ref a, .int i]) (n := 2) (Nat.le_of_ble_eq_true rfl)
  rw [lg_entry_eq]
  generalize (lg_sl ([.ref a, .int i]) ++ List.replicate (2 - (lg_sl ([.ref a, .int i])).length) Slot.unset).toArray = ls at hl ⊢
  have hl : lv_has ls 2 [(0, .ref a), (1, .int i)] := hl
  refine lv_iload_n hx hb dX2_part_0 rfl (lv_at hl 1 rfl) ?_
  refine ci_if_lt (X := i.toInt) (tgt := 22) hx hb rfl dX2_part_1 rfl (fun h1 => ?_) (fun h1 => ?_)
  · refine lv_iconst (v := nI 0) hx hb dX2_part_22 (by decide) ?_
    exact W.iret hx hb hr (fun tZ ht hW => ⟨_, rfl, rfl, ht⟩) (fun q h => by cases h) dX2_part_23
  · refine lv_iload_n hx hb dX2_part_4 rfl (lv_at hl 1 rfl) ?_
    refine lv_aload_n hx hb dX2_part_5 rfl (lv_at hl 0 rfl) ?_
    refine va_get (D := D) (ci := 2) (v := .ref pa) (C := RX2) (T := TX2) (N := 1) hx hb hts hinX2 hown hK.1 hP 0 rfl rfl 0 (by decide) (hts _ fl_X2_7) (fun _ h9 => h9) rfl dX2_part_6 ?_
    refine va_alen (v := nI n) hx hb hK.1 hP 1 0 rfl rfl rfl dX2_part_9 ?_
    refine ci_icmp_ge (X := i.toInt) (Y := ((n : Nat) : Int)) (tgt := 22) hx hb rfl (sg_n (by omega)) dX2_part_10 rfl (fun h10 => ?_) (fun h10 => by exfalso; omega)
    refine lv_iconst (v := nI 0) hx hb dX2_part_22 (by decide) ?_
    exact W.iret hx hb hr (fun tZ ht hW => ⟨_, rfl, rfl, ht⟩) (fun q h => by cases h) dX2_part_23
set_option maxHeartbeats 4000000 in
set_option maxRecDepth 100000 in
theorem c_part_dg (l : Launch) (D : va_G) (cI cO : ClassId) (a : Nat) (pa : Nat) (n : Nat) (Y : Nat) (j : Nat) (hj : j < 2147483648) (hn : n < 2147483648) (hY : Y < 4294967296 ^ n) : Met l yX2_part (.code yX2_part cX2_part 2 (some .int) :: sgT) ({ frames := 0, cells := 0, slots := 0, locals := 0 }) (sgPc D cI cO [.ref a, .int (nI j)] [(a, .inr (2, [.ref pa])), (pa, .inl (cI, n, .inl (dF Y)))]) (vp_Si (fun r => r = nI (dg 4294967296 j Y))) 0 0 (fun _ => False) := by
  refine Met.ofW (cc := cX2_part) (maxL := 2) (ret := (some .int)) (by decide) rfl ?_
  intro pZ eZ sZ mZ argsZ belowZ methZ cZ s₁ BZ hml hv
  obtain ⟨rfl, hP, hK⟩ := hv
  have hx := BZ.exec
  have hb := BZ.bytes
  have hr := BZ.returns
  have hts : ∀ wZ ∈ sgT, wZ.before ([.ref a, .int (nI j)] : List Value).toArray sZ = true := fun wZ h => atoms_spec (ws := (.code yX2_part cX2_part 2 (some .int) :: sgT)) BZ.pre wZ (List.mem_cons_of_mem _ h)
  have hown : sZ.vm.findClass RX2 = some mZ.cls := findClass_of_methodNamed BZ.named
  have hlocks := BZ.notSynchronized
  have hl := lv_entry ([.ref a, .int (nI j)]) (n := 2) (Nat.le_of_ble_eq_true rfl)
  rw [lg_entry_eq]
  generalize (lg_sl ([.ref a, .int (nI j)]) ++ List.replicate (2 - (lg_sl ([.ref a, .int (nI j)])).length) Slot.unset).toArray = ls at hl ⊢
  have hl : lv_has ls 2 [(0, .ref a), (1, .int (nI j))] := hl
  refine lv_iload_n hx hb dX2_part_0 rfl (lv_at hl 1 rfl) ?_
  refine ci_if_lt (X := ((j : Nat) : Int)) (tgt := 22) hx hb (sg_n (by omega)) dX2_part_1 rfl (fun h1 => by exfalso; omega) (fun h1 => ?_)
  refine lv_iload_n hx hb dX2_part_4 rfl (lv_at hl 1 rfl) ?_
  refine lv_aload_n hx hb dX2_part_5 rfl (lv_at hl 0 rfl) ?_
  refine va_get (D := D) (ci := 2) (v := .ref pa) (C := RX2) (T := TX2) (N := 1) hx hb hts hinX2 hown hK.1 hP 0 rfl rfl 0 (by decide) (hts _ fl_X2_7) (fun _ h9 => h9) rfl dX2_part_6 ?_
  refine va_alen (v := nI n) hx hb hK.1 hP 1 0 rfl rfl rfl dX2_part_9 ?_
  refine ci_icmp_ge (X := ((j : Nat) : Int)) (Y := ((n : Nat) : Int)) (tgt := 22) hx hb (sg_n (by omega)) (sg_n (by omega)) dX2_part_10 rfl (fun h10 => ?_) (fun h10 => ?_)
  · refine lv_iconst (v := nI 0) hx hb dX2_part_22 (by decide) ?_
    exact W.iret hx hb hr (fun tZ ht hW => ⟨_, rfl, (by rw [dg_pw (by decide) hY (by omega)]), ht⟩) (fun q h => by cases h) dX2_part_23
  · refine lv_aload_n hx hb dX2_part_13 rfl (lv_at hl 0 rfl) ?_
    refine va_get (D := D) (ci := 2) (v := .ref pa) (C := RX2) (T := TX2) (N := 1) hx hb hts hinX2 hown hK.1 hP 0 rfl rfl 0 (by decide) (hts _ fl_X2_7) (fun _ h9 => h9) rfl dX2_part_14 ?_
    refine lv_iload_n hx hb dX2_part_17 rfl (lv_at hl 1 rfl) ?_
    refine n_iald (v := nI (dg 4294967296 j Y)) hx hb hK.1 hP 1 0 rfl rfl (by omega) (by omega) rfl dX2_part_18 ?_
    refine lv_goto (tgt := 23) hx hb dX2_part_19 rfl ?_
    exact W.iret hx hb hr (fun tZ ht hW => ⟨_, rfl, rfl, ht⟩) (fun q h => by cases h) dX2_part_23
set_option maxHeartbeats 4000000 in
set_option maxRecDepth 100000 in
theorem c_X2_setOne (l : Launch) (D : va_G) (cI cO : ClassId) (a : Nat) (pa : Nat) (n : Nat) (f : Nat → Int32) (hn : n < 2147483648) : Met l yX2_setOne (.code yX2_setOne cX2_setOne 2 none :: sgT) ({ frames := 0, cells := 0, slots := 0, locals := 0 }) (sgWc D cI cO [.ref a] [(a, .inr (2, [.ref pa])), (pa, .inl (cI, n, .inl f))]) (va_Qv (fun uZ : Unit => True) (fun uZ t => va_P D vwCl [(a, .inr (2, [.ref pa])), (pa, .inl (cI, n, .inl (dF 1)))] t.heap) (xA [(a, .inr (2, [.ref pa])), (pa, .inl (cI, n, .inl f))])) 0 0 (xA [(a, .inr (2, [.ref pa])), (pa, .inl (cI, n, .inl f))]) := by
  refine Met.ofW (cc := cX2_setOne) (maxL := 2) (ret := none) (by decide) rfl ?_
  intro pZ eZ sZ mZ argsZ belowZ methZ cZ s₁ BZ hml hv
  obtain ⟨rfl, hP, hK, hD0⟩ := hv
  have hx := BZ.exec
  have hb := BZ.bytes
  have hr := BZ.returns
  have hts : ∀ wZ ∈ sgT, wZ.before ([.ref a] : List Value).toArray sZ = true := fun wZ h => atoms_spec (ws := (.code yX2_setOne cX2_setOne 2 none :: sgT)) BZ.pre wZ (List.mem_cons_of_mem _ h)
  have hown : sZ.vm.findClass RX2 = some mZ.cls := findClass_of_methodNamed BZ.named
  have hlocks := BZ.notSynchronized
  have hD : va_D (xA [(a, .inr (2, [.ref pa])), (pa, .inl (cI, n, .inl f))]) [(a, .inr (2, [.ref pa])), (pa, .inl (cI, n, .inl f))] := ⟨hD0.1, fun k q h => ⟨k, q.2, h⟩⟩
  generalize hAe : xA [(a, .inr (2, [.ref pa])), (pa, .inl (cI, n, .inl f))] = A at hD ⊢
  have hS : va_S A sZ.heap sZ.heap [] := va_S.rf
  have hl := lv_entry ([.ref a]) (n := 2) (Nat.le_of_ble_eq_true rfl)
  rw [lg_entry_eq]
  generalize (lg_sl ([.ref a]) ++ List.replicate (2 - (lg_sl ([.ref a])).length) Slot.unset).toArray = ls at hl ⊢
  have hl : lv_has ls 2 [(0, .ref a)] := hl
  have hP : va_P D vwCl [(a, .inr (2, [.ref pa])), (pa, .inl (cI, n, .inl f))] sZ.heap := hP
  refine lv_iconst (v := nI 0) hx hb dX2_setOne_0 (by decide) ?_
  refine lv_istore_n hx hb dX2_setOne_1 rfl hl (by decide) rfl (fun ls hl => ?_)
  have hl : lv_has ls 2 [(1, .int (nI 0)), (0, .ref a)] := hl
  refine sw_loop (I := fun kM ls H locs => ∃ (i : Nat) (f : Nat → Int32), kM = n - i ∧ lv_has ls 2 [(1, .int (nI i)), (0, .ref a)] ∧ va_P D vwCl [(a, .inr (2, [.ref pa])), (pa, .inl (cI, n, .inl f))] H ∧ va_D A [(a, .inr (2, [.ref pa])), (pa, .inl (cI, n, .inl f))] ∧ va_S A sZ.heap H locs ∧ (i ≤ n) ∧ (∀ j, j < i → f j = dF 1 j)) ?_ _ ⟨0, f, rfl, hl, hP, hD, hS, by omega, fun j hj => absurd hj (Nat.not_lt_zero _)⟩
  intro kM ls H locs hI ih2
  obtain ⟨i, f, hkM, hl, hP, hD, hS, hi, hf⟩ := hI
  refine lv_iload_n hx hb dX2_setOne_2 rfl (lv_at hl 0 rfl) ?_
  refine lv_aload_n hx hb dX2_setOne_3 rfl (lv_at hl 1 rfl) ?_
  refine va_get (D := D) (ci := 2) (v := .ref pa) (C := RX2) (T := TX2) (N := 1) hx hb hts hinX2 hown hK.1 hP 0 rfl rfl 0 (by decide) (hts _ fl_X2_7) (fun _ h9 => h9) rfl dX2_setOne_4 ?_
  refine va_alen (v := nI n) hx hb hK.1 hP 1 0 rfl rfl rfl dX2_setOne_7 ?_
  refine ci_icmp_ge (X := ((i : Nat) : Int)) (Y := ((n : Nat) : Int)) (tgt := 32) hx hb (sg_n (by omega)) (sg_n (by omega)) dX2_setOne_8 rfl (fun h8 => ?_) (fun h8 => ?_)
  · have hP := sg_arr (g := dF 1) 1 hP rfl (fun j hj => hf j (by omega))
    have hD := sgD_adr (ws := [(a, .inr (2, [.ref pa])), (pa, .inl (cI, n, .inl f))]) (ws' := [(a, .inr (2, [.ref pa])), (pa, .inl (cI, n, .inl (dF 1)))]) rfl hD
    have hP : va_P D vwCl [(a, .inr (2, [.ref pa])), (pa, .inl (cI, n, .inl (dF 1)))] H := hP
    have hD : va_D A [(a, .inr (2, [.ref pa])), (pa, .inl (cI, n, .inl (dF 1)))] := hD
    exact W.vret hx hb hr (fun tZ ht hW => ⟨⟨(), rfl, trivial, by show va_P D vwCl _ tZ.heap; rw [ht]; exact hP⟩, hS.F ht⟩) hS.2.2 dX2_setOne_32
  · refine lv_aload_n hx hb dX2_setOne_11 rfl (lv_at hl 1 rfl) ?_
    refine va_get (D := D) (ci := 2) (v := .ref pa) (C := RX2) (T := TX2) (N := 1) hx hb hts hinX2 hown hK.1 hP 0 rfl rfl 0 (by decide) (hts _ fl_X2_7) (fun _ h9 => h9) rfl dX2_setOne_12 ?_
    refine lv_iload_n hx hb dX2_setOne_15 rfl (lv_at hl 0 rfl) ?_
    refine lv_iload_n hx hb dX2_setOne_16 rfl (lv_at hl 0 rfl) ?_
    refine ci_if_ne (X := ((i : Nat) : Int)) (tgt := 24) hx hb (sg_n (by omega)) dX2_setOne_17 rfl (fun h17 => ?_) (fun h17 => ?_)
    · refine lv_iconst (v := nI 0) hx hb dX2_setOne_24 (by decide) ?_
      refine n_iast hx hb hK.1 hP hD hS 1 0 rfl rfl (by omega) (by omega) dX2_setOne_25 (fun H locs hP hD hS => ?_)
      have hP : va_P D vwCl [(a, .inr (2, [.ref pa])), (pa, .inl (cI, n, .inl (upd f i (nI 0))))] H := hP
      have hD : va_D A [(a, .inr (2, [.ref pa])), (pa, .inl (cI, n, .inl (upd f i (nI 0))))] := hD
      refine lv_iinc (v := nI (i + 1)) hx hb dX2_setOne_26 hl (k := 0) rfl (sg_inc _) (by decide) rfl (fun ls hl => ?_)
      have hl : lv_has ls 2 [(1, .int (nI (i + 1))), (0, .ref a)] := hl
      refine lv_goto (tgt := 2) hx hb dX2_setOne_29 rfl ?_
      exact ih2 _ _ _ _ ⟨i + 1, upd f i (nI 0), rfl, lv_sub hl [0, 1] rfl, hP, hD, hS, by omega, sg_updlt hf (by rw [dF_one]; first | rw [if_pos (by omega)] | rw [if_neg (by omega)])⟩ (by omega)
    · refine lv_iconst (v := nI 1) hx hb dX2_setOne_20 (by decide) ?_
      refine lv_goto (tgt := 25) hx hb dX2_setOne_21 rfl ?_
      refine n_iast hx hb hK.1 hP hD hS 1 0 rfl rfl (by omega) (by omega) dX2_setOne_25 (fun H locs hP hD hS => ?_)
      have hP : va_P D vwCl [(a, .inr (2, [.ref pa])), (pa, .inl (cI, n, .inl (upd f i (nI 1))))] H := hP
      have hD : va_D A [(a, .inr (2, [.ref pa])), (pa, .inl (cI, n, .inl (upd f i (nI 1))))] := hD
      refine lv_iinc (v := nI (i + 1)) hx hb dX2_setOne_26 hl (k := 0) rfl (sg_inc _) (by decide) rfl (fun ls hl => ?_)
      have hl : lv_has ls 2 [(1, .int (nI (i + 1))), (0, .ref a)] := hl
      refine lv_goto (tgt := 2) hx hb dX2_setOne_29 rfl ?_
      exact ih2 _ _ _ _ ⟨i + 1, upd f i (nI 1), rfl, lv_sub hl [0, 1] rfl, hP, hD, hS, by omega, sg_updlt hf (by rw [dF_one]; first | rw [if_pos (by omega)] | rw [if_neg (by omega)])⟩ (by omega)
set_option maxHeartbeats 4000000 in
set_option maxRecDepth 100000 in
theorem c_X2_copy (l : Launch) (D : va_G) (cI cO : ClassId) (a : Nat) (pa : Nat) (n : Nat) (f : Nat → Int32) (b : Nat) (pb : Nat) (g : Nat → Int32) (hn : n < 2147483648) : Met l yX2_copy (.code yX2_copy cX2_copy 3 none :: sgT) ({ frames := 1, cells := 0, slots := 0, locals := 21 }) (sgWc D cI cO [.ref a, .ref b] [(a, .inr (2, [.ref pa])), (pa, .inl (cI, n, .inl f)), (b, .inr (2, [.ref pb])), (pb, .inl (cI, n, .inl g))]) (va_Qv (fun uZ : Unit => True) (fun uZ t => va_P D vwCl [(a, .inr (2, [.ref pa])), (pa, .inl (cI, n, .inl g)), (b, .inr (2, [.ref pb])), (pb, .inl (cI, n, .inl g))] t.heap) (xA [(a, .inr (2, [.ref pa])), (pa, .inl (cI, n, .inl f)), (b, .inr (2, [.ref pb])), (pb, .inl (cI, n, .inl g))])) 0 0 (xA [(a, .inr (2, [.ref pa])), (pa, .inl (cI, n, .inl f)), (b, .inr (2, [.ref pb])), (pb, .inl (cI, n, .inl g))]) := by
  refine Met.ofW (cc := cX2_copy) (maxL := 3) (ret := none) (by decide) rfl ?_
  intro pZ eZ sZ mZ argsZ belowZ methZ cZ s₁ BZ hml hv
  obtain ⟨rfl, hP, hK, hD0⟩ := hv
  have hx := BZ.exec
  have hb := BZ.bytes
  have hr := BZ.returns
  have hts : ∀ wZ ∈ sgT, wZ.before ([.ref a, .ref b] : List Value).toArray sZ = true := fun wZ h => atoms_spec (ws := (.code yX2_copy cX2_copy 3 none :: sgT)) BZ.pre wZ (List.mem_cons_of_mem _ h)
  have hown : sZ.vm.findClass RX2 = some mZ.cls := findClass_of_methodNamed BZ.named
  have hlocks := BZ.notSynchronized
  have hD : va_D (xA [(a, .inr (2, [.ref pa])), (pa, .inl (cI, n, .inl f)), (b, .inr (2, [.ref pb])), (pb, .inl (cI, n, .inl g))]) [(a, .inr (2, [.ref pa])), (pa, .inl (cI, n, .inl f)), (b, .inr (2, [.ref pb])), (pb, .inl (cI, n, .inl g))] := ⟨hD0.1, fun k q h => ⟨k, q.2, h⟩⟩
  generalize hAe : xA [(a, .inr (2, [.ref pa])), (pa, .inl (cI, n, .inl f)), (b, .inr (2, [.ref pb])), (pb, .inl (cI, n, .inl g))] = A at hD ⊢
  have hS : va_S A sZ.heap sZ.heap [] := va_S.rf
  have hl := lv_entry ([.ref a, .ref b]) (n := 3) (Nat.le_of_ble_eq_true rfl)
  rw [lg_entry_eq]
  generalize (lg_sl ([.ref a, .ref b]) ++ List.replicate (3 - (lg_sl ([.ref a, .ref b])).length) Slot.unset).toArray = ls at hl ⊢
  have hl : lv_has ls 3 [(0, .ref a), (1, .ref b)] := hl
  have hP : va_P D vwCl [(a, .inr (2, [.ref pa])), (pa, .inl (cI, n, .inl f)), (b, .inr (2, [.ref pb])), (pb, .inl (cI, n, .inl g))] sZ.heap := hP
  refine lv_iconst (v := nI 0) hx hb dX2_copy_0 (by decide) ?_
  refine lv_istore_n hx hb dX2_copy_1 rfl hl (by decide) rfl (fun ls hl => ?_)
  have hl : lv_has ls 3 [(2, .int (nI 0)), (0, .ref a), (1, .ref b)] := hl
  refine sw_loop (I := fun kM ls H locs => ∃ (i : Nat) (f : Nat → Int32), kM = n - i ∧ lv_has ls 3 [(2, .int (nI i)), (0, .ref a), (1, .ref b)] ∧ va_P D vwCl [(a, .inr (2, [.ref pa])), (pa, .inl (cI, n, .inl f)), (b, .inr (2, [.ref pb])), (pb, .inl (cI, n, .inl g))] H ∧ va_D A [(a, .inr (2, [.ref pa])), (pa, .inl (cI, n, .inl f)), (b, .inr (2, [.ref pb])), (pb, .inl (cI, n, .inl g))] ∧ va_S A sZ.heap H locs ∧ (i ≤ n) ∧ (∀ j, j < i → f j = g j)) ?_ _ ⟨0, f, rfl, hl, hP, hD, hS, by omega, fun j hj => absurd hj (Nat.not_lt_zero _)⟩
  intro kM ls H locs hI ih2
  obtain ⟨i, f, hkM, hl, hP, hD, hS, hi, hf⟩ := hI
  refine lv_iload_n hx hb dX2_copy_2 rfl (lv_at hl 0 rfl) ?_
  refine lv_aload_n hx hb dX2_copy_3 rfl (lv_at hl 1 rfl) ?_
  refine va_get (D := D) (ci := 2) (v := .ref pa) (C := RX2) (T := TX2) (N := 1) hx hb hts hinX2 hown hK.1 hP 0 rfl rfl 0 (by decide) (hts _ fl_X2_7) (fun _ h9 => h9) rfl dX2_copy_4 ?_
  refine va_alen (v := nI n) hx hb hK.1 hP 1 0 rfl rfl rfl dX2_copy_7 ?_
  refine ci_icmp_ge (X := ((i : Nat) : Int)) (Y := ((n : Nat) : Int)) (tgt := 28) hx hb (sg_n (by omega)) (sg_n (by omega)) dX2_copy_8 rfl (fun h8 => ?_) (fun h8 => ?_)
  · have hP := sg_arr (g := g) 1 hP rfl (fun j hj => hf j (by omega))
    have hD := sgD_adr (ws := [(a, .inr (2, [.ref pa])), (pa, .inl (cI, n, .inl f)), (b, .inr (2, [.ref pb])), (pb, .inl (cI, n, .inl g))]) (ws' := [(a, .inr (2, [.ref pa])), (pa, .inl (cI, n, .inl g)), (b, .inr (2, [.ref pb])), (pb, .inl (cI, n, .inl g))]) rfl hD
    have hP : va_P D vwCl [(a, .inr (2, [.ref pa])), (pa, .inl (cI, n, .inl g)), (b, .inr (2, [.ref pb])), (pb, .inl (cI, n, .inl g))] H := hP
    have hD : va_D A [(a, .inr (2, [.ref pa])), (pa, .inl (cI, n, .inl g)), (b, .inr (2, [.ref pb])), (pb, .inl (cI, n, .inl g))] := hD
    exact W.vret hx hb hr (fun tZ ht hW => ⟨⟨(), rfl, trivial, by show va_P D vwCl _ tZ.heap; rw [ht]; exact hP⟩, hS.F ht⟩) hS.2.2 dX2_copy_28
  · refine lv_aload_n hx hb dX2_copy_11 rfl (lv_at hl 1 rfl) ?_
    refine va_get (D := D) (ci := 2) (v := .ref pa) (C := RX2) (T := TX2) (N := 1) hx hb hts hinX2 hown hK.1 hP 0 rfl rfl 0 (by decide) (hts _ fl_X2_7) (fun _ h9 => h9) rfl dX2_copy_12 ?_
    refine lv_iload_n hx hb dX2_copy_15 rfl (lv_at hl 0 rfl) ?_
    refine lv_aload_n hx hb dX2_copy_16 rfl (lv_at hl 2 rfl) ?_
    refine lv_iload_n hx hb dX2_copy_17 rfl (lv_at hl 0 rfl) ?_
    refine sg_callRi (va_runV (As := [.int (nI i)]) (rest := [.int (nI i), .ref pa]) (C := RX2) ⟨hx, hb, hml, hown, hts⟩ (c_part_in l D cI cO b pb n g i (by omega) (by omega)) ⟨(sg_cB 1 hts mcX2_part ml_X2_13 in_X2 rfl rfl (by decide +kernel) ⟨Nat.le_of_ble_eq_true rfl, Nat.le_of_ble_eq_true rfl⟩), hts _ im_X2_part, hts _ se_X2_part⟩ (sg_pV (q0 := 2) hK hP [2, 3] rfl rfl rfl rfl) rfl rfl hl.1 rfl (lv_room (Nat.le_of_ble_eq_true rfl)) dX2_copy_18 ⟨Nat.zero_le _, Nat.zero_le _⟩) ?_
    refine n_iast hx hb hK.1 hP hD hS 1 0 rfl rfl (by omega) (by omega) dX2_copy_21 (fun H locs hP hD hS => ?_)
    have hP : va_P D vwCl [(a, .inr (2, [.ref pa])), (pa, .inl (cI, n, .inl (upd f i (g i)))), (b, .inr (2, [.ref pb])), (pb, .inl (cI, n, .inl g))] H := hP
    have hD : va_D A [(a, .inr (2, [.ref pa])), (pa, .inl (cI, n, .inl (upd f i (g i)))), (b, .inr (2, [.ref pb])), (pb, .inl (cI, n, .inl g))] := hD
    refine lv_iinc (v := nI (i + 1)) hx hb dX2_copy_22 hl (k := 0) rfl (sg_inc _) (by decide) rfl (fun ls hl => ?_)
    have hl : lv_has ls 3 [(2, .int (nI (i + 1))), (0, .ref a), (1, .ref b)] := hl
    refine lv_goto (tgt := 2) hx hb dX2_copy_25 rfl ?_
    exact ih2 _ _ _ _ ⟨i + 1, upd f i (g i), rfl, lv_sub hl [0, 1, 2] rfl, hP, hD, hS, by omega, sg_updlt hf rfl⟩ (by omega)
set_option maxHeartbeats 4000000 in
set_option maxRecDepth 100000 in
theorem c_X2_multiply (l : Launch) (D : va_G) (cI cO : ClassId) (a : Nat) (pa : Nat) (n : Nat) (X : Nat) (k : Nat) (hn : n < 2147483648) (hk : k < 4294967296) : Met l yX2_multiply (.code yX2_multiply cX2_multiply 8 none :: sgT) ({ frames := 0, cells := 0, slots := 0, locals := 0 }) (sgWc D cI cO [.ref a, .long (lN k)] [(a, .inr (2, [.ref pa])), (pa, .inl (cI, n, .inl (dF X)))]) (va_Qv (fun uZ : Unit => True) (fun uZ t => va_P D vwCl [(a, .inr (2, [.ref pa])), (pa, .inl (cI, n, .inl (dF (k * X))))] t.heap) (xA [(a, .inr (2, [.ref pa])), (pa, .inl (cI, n, .inl (dF X)))])) 0 0 (xA [(a, .inr (2, [.ref pa])), (pa, .inl (cI, n, .inl (dF X)))]) := by
  refine Met.ofW (cc := cX2_multiply) (maxL := 8) (ret := none) (by decide) rfl ?_
  intro pZ eZ sZ mZ argsZ belowZ methZ cZ s₁ BZ hml hv
  obtain ⟨rfl, hP, hK, hD0⟩ := hv
  have hx := BZ.exec
  have hb := BZ.bytes
  have hr := BZ.returns
  have hts : ∀ wZ ∈ sgT, wZ.before ([.ref a, .long (lN k)] : List Value).toArray sZ = true := fun wZ h => atoms_spec (ws := (.code yX2_multiply cX2_multiply 8 none :: sgT)) BZ.pre wZ (List.mem_cons_of_mem _ h)
  have hown : sZ.vm.findClass RX2 = some mZ.cls := findClass_of_methodNamed BZ.named
  have hlocks := BZ.notSynchronized
  have hD : va_D (xA [(a, .inr (2, [.ref pa])), (pa, .inl (cI, n, .inl (dF X)))]) [(a, .inr (2, [.ref pa])), (pa, .inl (cI, n, .inl (dF X)))] := ⟨hD0.1, fun k q h => ⟨k, q.2, h⟩⟩
  generalize hAe : xA [(a, .inr (2, [.ref pa])), (pa, .inl (cI, n, .inl (dF X)))] = A at hD ⊢
  have hS : va_S A sZ.heap sZ.heap [] := va_S.rf
  have hl := lv_entry ([.ref a, .long (lN k)]) (n := 8) (Nat.le_of_ble_eq_true rfl)
  rw [lg_entry_eq]
  generalize (lg_sl ([.ref a, .long (lN k)]) ++ List.replicate (8 - (lg_sl ([.ref a, .long (lN k)])).length) Slot.unset).toArray = ls at hl ⊢
  have hl : lv_has ls 8 [(0, .ref a), (1, .long (lN k))] := hl
  have hP : va_P D vwCl [(a, .inr (2, [.ref pa])), (pa, .inl (cI, n, .inl (dF X)))] sZ.heap := hP
  refine lv_lconst (v := lN 0) hx hb dX2_multiply_0 (by decide) ?_
  refine lv_lstore_n hx hb dX2_multiply_1 rfl hl (by decide) rfl (fun ls hl => ?_)
  have hl : lv_has ls 8 [(3, .long (lN 0)), (0, .ref a), (1, .long (lN k))] := hl
  refine lv_iconst (v := nI 0) hx hb dX2_multiply_2 (by decide) ?_
  refine lv_istore hx hb dX2_multiply_3 hl (by decide) rfl (fun ls hl => ?_)
  have hl : lv_has ls 8 [(5, .int (nI 0)), (3, .long (lN 0)), (0, .ref a), (1, .long (lN k))] := hl
  refine sw_loop (I := fun kM ls H locs => ∃ (i : Nat) (cy : Nat) (f : Nat → Int32), kM = n - i ∧ lv_has ls 8 [(5, .int (nI i)), (3, .long (lN cy)), (0, .ref a), (1, .long (lN k))] ∧ va_P D vwCl [(a, .inr (2, [.ref pa])), (pa, .inl (cI, n, .inl f))] H ∧ va_D A [(a, .inr (2, [.ref pa])), (pa, .inl (cI, n, .inl f))] ∧ va_S A sZ.heap H locs ∧ (i ≤ n) ∧ (cy = dgM 4294967296 k X i / 4294967296 ^ i) ∧ (∀ j, j < i → f j = dF (k * X) j) ∧ (∀ j, i ≤ j → f j = dF X j)) ?_ _ ⟨0, 0, dF X, rfl, hl, hP, hD, hS, by omega, (dgM_0 _ _ _).symm, fun j hj => absurd hj (Nat.not_lt_zero _), fun j _ => rfl⟩
  intro kM ls H locs hI ih5
  obtain ⟨i, cy, f, hkM, hl, hP, hD, hS, hi, hc, hlo, hhi⟩ := hI
  refine lv_iload hx hb dX2_multiply_5 (lv_at hl 0 rfl) ?_
  refine lv_aload_n hx hb dX2_multiply_7 rfl (lv_at hl 2 rfl) ?_
  refine va_get (D := D) (ci := 2) (v := .ref pa) (C := RX2) (T := TX2) (N := 1) hx hb hts hinX2 hown hK.1 hP 0 rfl rfl 0 (by decide) (hts _ fl_X2_7) (fun _ h9 => h9) rfl dX2_multiply_8 ?_
  refine va_alen (v := nI n) hx hb hK.1 hP 1 0 rfl rfl rfl dX2_multiply_11 ?_
  refine ci_icmp_ge (X := ((i : Nat) : Int)) (Y := ((n : Nat) : Int)) (tgt := 55) hx hb (sg_n (by omega)) (sg_n (by omega)) dX2_multiply_12 rfl (fun h12 => ?_) (fun h12 => ?_)
  · have hP := sg_arr (g := dF (k * X)) 1 hP rfl (fun j hj => hlo j (by omega))
    have hD := sgD_adr (ws := [(a, .inr (2, [.ref pa])), (pa, .inl (cI, n, .inl f))]) (ws' := [(a, .inr (2, [.ref pa])), (pa, .inl (cI, n, .inl (dF (k * X))))]) rfl hD
    have hP : va_P D vwCl [(a, .inr (2, [.ref pa])), (pa, .inl (cI, n, .inl (dF (k * X))))] H := hP
    have hD : va_D A [(a, .inr (2, [.ref pa])), (pa, .inl (cI, n, .inl (dF (k * X))))] := hD
    exact W.vret hx hb hr (fun tZ ht hW => ⟨⟨(), rfl, trivial, by show va_P D vwCl _ tZ.heap; rw [ht]; exact hP⟩, hS.F ht⟩) hS.2.2 dX2_multiply_55
  · refine lv_aload_n hx hb dX2_multiply_15 rfl (lv_at hl 2 rfl) ?_
    refine va_get (D := D) (ci := 2) (v := .ref pa) (C := RX2) (T := TX2) (N := 1) hx hb hts hinX2 hown hK.1 hP 0 rfl rfl 0 (by decide) (hts _ fl_X2_7) (fun _ h9 => h9) rfl dX2_multiply_16 ?_
    refine lv_iload hx hb dX2_multiply_19 (lv_at hl 0 rfl) ?_
    refine n_iald (v := nI (dg 4294967296 i X)) hx hb hK.1 hP 1 0 rfl rfl (by omega) (by omega) (hhi i (Nat.le_refl _)) dX2_multiply_21 ?_
    refine lv_i2l hx hb dX2_multiply_22 rfl ?_
    refine lv_ldc2 (v := lN 4294967295) hx hb hown (hts _ kl_X2_17) dX2_multiply_23 ?_
    refine lv_land hx hb dX2_multiply_26 ?_
    refine sw_l (y := lN (dg 4294967296 i X)) (sg_low (dg_lt (by decide) _ _)) ?_
    refine lv_lload_n hx hb dX2_multiply_27 rfl (lv_at hl 3 rfl) ?_
    refine n_lmul hx hb dX2_multiply_28 ?_
    refine lv_lload_n hx hb dX2_multiply_29 rfl (lv_at hl 1 rfl) ?_
    refine n_ladd hx hb dX2_multiply_30 ?_
    refine lv_lstore hx hb dX2_multiply_31 hl (by decide) rfl (fun ls hl => ?_)
    have hl : lv_has ls 8 [(6, .long (lN (((dg 4294967296 i X) * k) + cy))), (5, .int (nI i)), (3, .long (lN cy)), (0, .ref a), (1, .long (lN k))] := hl
    refine lv_aload_n hx hb dX2_multiply_33 rfl (lv_at hl 3 rfl) ?_
    refine va_get (D := D) (ci := 2) (v := .ref pa) (C := RX2) (T := TX2) (N := 1) hx hb hts hinX2 hown hK.1 hP 0 rfl rfl 0 (by decide) (hts _ fl_X2_7) (fun _ h9 => h9) rfl dX2_multiply_34 ?_
    refine lv_iload hx hb dX2_multiply_37 (lv_at hl 1 rfl) ?_
    refine lv_lload hx hb dX2_multiply_39 (lv_at hl 0 rfl) ?_
    refine n_l2i hx hb dX2_multiply_41 ?_
    refine n_iast hx hb hK.1 hP hD hS 1 0 rfl rfl (by omega) (by omega) dX2_multiply_42 (fun H locs hP hD hS => ?_)
    have hP : va_P D vwCl [(a, .inr (2, [.ref pa])), (pa, .inl (cI, n, .inl (upd f i (nI (((dg 4294967296 i X) * k) + cy)))))] H := hP
    have hD : va_D A [(a, .inr (2, [.ref pa])), (pa, .inl (cI, n, .inl (upd f i (nI (((dg 4294967296 i X) * k) + cy)))))] := hD
    refine lv_lload hx hb dX2_multiply_43 (lv_at hl 0 rfl) ?_
    refine lv_bipush (v := nI 32) hx hb dX2_multiply_45 (by decide) ?_
    refine lv_lushr hx hb dX2_multiply_47 rfl ?_
    refine sw_l (y := lN ((dg 4294967296 i X * k + cy) / 4294967296)) (sg_hi (sg_b64 (p := 0) (dg_lt (by decide) _ _) hk (by decide) (by rw [hc]; exact dgM_le (by decide) _ _ _))) ?_
    refine lv_lstore_n hx hb dX2_multiply_48 rfl hl (by decide) rfl (fun ls hl => ?_)
    have hl : lv_has ls 8 [(3, .long (lN ((dg 4294967296 i X * k + cy) / 4294967296))), (6, .long (lN (((dg 4294967296 i X) * k) + cy))), (5, .int (nI i)), (0, .ref a), (1, .long (lN k))] := hl
    refine lv_iinc (v := nI (i + 1)) hx hb dX2_multiply_49 hl (k := 2) rfl (sg_inc _) (by decide) rfl (fun ls hl => ?_)
    have hl : lv_has ls 8 [(5, .int (nI (i + 1))), (3, .long (lN ((dg 4294967296 i X * k + cy) / 4294967296))), (6, .long (lN (((dg 4294967296 i X) * k) + cy))), (0, .ref a), (1, .long (lN k))] := hl
    refine lv_goto (tgt := 5) hx hb dX2_multiply_52 rfl ?_
    exact ih5 _ _ _ _ ⟨i + 1, (dg 4294967296 i X * k + cy) / 4294967296, upd f i (nI (((dg 4294967296 i X) * k) + cy)), rfl, lv_sub hl [0, 1, 3, 4] rfl, hP, hD, hS, by omega, by rw [hc, dgM_sum (by decide), dgM_carry], sg_updlt hlo (by rw [hc, dgM_sum (by decide), nI_mod, dgM_dg (by decide)]; rfl), sg_updge hhi⟩ (by omega)
set_option maxHeartbeats 4000000 in
set_option maxRecDepth 100000 in
theorem c_X2_addShifted (l : Launch) (D : va_G) (cI cO : ClassId) (a : Nat) (pa : Nat) (n : Nat) (P : Nat) (b : Nat) (pb : Nat) (k : Nat) (Y : Nat) (ff : Nat) (sh : Nat) (hn : n < 1073741824) (hk : k < 2147483648) (hff : ff < 4294967296) (hsh : sh ≤ n) (hY : Y < 4294967296 ^ k) : Met l yX2_addShifted (.code yX2_addShifted cX2_addShifted 10 none :: sgT) ({ frames := 1, cells := 0, slots := 0, locals := 21 }) (sgWc D cI cO [.ref a, .ref b, .long (lN ff), .int (nI sh)] [(a, .inr (2, [.ref pa])), (pa, .inl (cI, n, .inl (dF P))), (b, .inr (2, [.ref pb])), (pb, .inl (cI, k, .inl (dF Y)))]) (va_Qv (fun uZ : Unit => True) (fun uZ t => va_P D vwCl [(a, .inr (2, [.ref pa])), (pa, .inl (cI, n, .inl (dF (P + ff * (4294967296 ^ sh * Y))))), (b, .inr (2, [.ref pb])), (pb, .inl (cI, k, .inl (dF Y)))] t.heap) (xA [(a, .inr (2, [.ref pa])), (pa, .inl (cI, n, .inl (dF P))), (b, .inr (2, [.ref pb])), (pb, .inl (cI, k, .inl (dF Y)))])) 0 0 (xA [(a, .inr (2, [.ref pa])), (pa, .inl (cI, n, .inl (dF P))), (b, .inr (2, [.ref pb])), (pb, .inl (cI, k, .inl (dF Y)))]) := by
  refine Met.ofW (cc := cX2_addShifted) (maxL := 10) (ret := none) (by decide) rfl ?_
  intro pZ eZ sZ mZ argsZ belowZ methZ cZ s₁ BZ hml hv
  obtain ⟨rfl, hP, hK, hD0⟩ := hv
  have hx := BZ.exec
  have hb := BZ.bytes
  have hr := BZ.returns
  have hts : ∀ wZ ∈ sgT, wZ.before ([.ref a, .ref b, .long (lN ff), .int (nI sh)] : List Value).toArray sZ = true := fun wZ h => atoms_spec (ws := (.code yX2_addShifted cX2_addShifted 10 none :: sgT)) BZ.pre wZ (List.mem_cons_of_mem _ h)
  have hown : sZ.vm.findClass RX2 = some mZ.cls := findClass_of_methodNamed BZ.named
  have hlocks := BZ.notSynchronized
  have hD : va_D (xA [(a, .inr (2, [.ref pa])), (pa, .inl (cI, n, .inl (dF P))), (b, .inr (2, [.ref pb])), (pb, .inl (cI, k, .inl (dF Y)))]) [(a, .inr (2, [.ref pa])), (pa, .inl (cI, n, .inl (dF P))), (b, .inr (2, [.ref pb])), (pb, .inl (cI, k, .inl (dF Y)))] := ⟨hD0.1, fun k q h => ⟨k, q.2, h⟩⟩
  generalize hAe : xA [(a, .inr (2, [.ref pa])), (pa, .inl (cI, n, .inl (dF P))), (b, .inr (2, [.ref pb])), (pb, .inl (cI, k, .inl (dF Y)))] = A at hD ⊢
  have hS : va_S A sZ.heap sZ.heap [] := va_S.rf
  have hl := lv_entry ([.ref a, .ref b, .long (lN ff), .int (nI sh)]) (n := 10) (Nat.le_of_ble_eq_true rfl)
  rw [lg_entry_eq]
  generalize (lg_sl ([.ref a, .ref b, .long (lN ff), .int (nI sh)]) ++ List.replicate (10 - (lg_sl ([.ref a, .ref b, .long (lN ff), .int (nI sh)])).length) Slot.unset).toArray = ls at hl ⊢
  have hl : lv_has ls 10 [(0, .ref a), (1, .ref b), (2, .long (lN ff)), (4, .int (nI sh))] := hl
  have hP : va_P D vwCl [(a, .inr (2, [.ref pa])), (pa, .inl (cI, n, .inl (dF P))), (b, .inr (2, [.ref pb])), (pb, .inl (cI, k, .inl (dF Y)))] sZ.heap := hP
  refine lv_lconst (v := lN 0) hx hb dX2_addShifted_0 (by decide) ?_
  refine lv_lstore hx hb dX2_addShifted_1 hl (by decide) rfl (fun ls hl => ?_)
  have hl : lv_has ls 10 [(5, .long (lN 0)), (0, .ref a), (1, .ref b), (2, .long (lN ff)), (4, .int (nI sh))] := hl
  refine lv_iload hx hb dX2_addShifted_3 (lv_at hl 4 rfl) ?_
  refine lv_istore hx hb dX2_addShifted_5 hl (by decide) rfl (fun ls hl => ?_)
  have hl : lv_has ls 10 [(7, .int (nI sh)), (5, .long (lN 0)), (0, .ref a), (1, .ref b), (2, .long (lN ff)), (4, .int (nI sh))] := hl
  refine sw_loop (I := fun kM ls H locs => ∃ (t : Nat) (cy : Nat) (f : Nat → Int32), kM = n - (sh + t) ∧ lv_has ls 10 [(7, .int (nI (sh + t))), (5, .long (lN cy)), (0, .ref a), (1, .ref b), (2, .long (lN ff)), (4, .int (nI sh))] ∧ va_P D vwCl [(a, .inr (2, [.ref pa])), (pa, .inl (cI, n, .inl f)), (b, .inr (2, [.ref pb])), (pb, .inl (cI, k, .inl (dF Y)))] H ∧ va_D A [(a, .inr (2, [.ref pa])), (pa, .inl (cI, n, .inl f)), (b, .inr (2, [.ref pb])), (pb, .inl (cI, k, .inl (dF Y)))] ∧ va_S A sZ.heap H locs ∧ (sh + t ≤ n) ∧ (cy = dgZ 4294967296 P ff Y sh t / 4294967296 ^ (sh + t)) ∧ (∀ j, j < sh + t → f j = dF (P + ff * (4294967296 ^ sh * Y)) j) ∧ (∀ j, sh + t ≤ j → f j = dF P j)) ?_ _ ⟨0, 0, dF P, rfl, hl, hP, hD, hS, by omega, (dgZ_0 _ _ _ _ _ (by decide)).symm, fun j hj => congrArg nI (dgZ_low (by decide) P ff Y sh j (by omega)).symm, fun j _ => rfl⟩
  intro kM ls H locs hI ih7
  obtain ⟨t, cy, f, hkM, hl, hP, hD, hS, hi, hc, hlo, hhi⟩ := hI
  refine lv_iload hx hb dX2_addShifted_7 (lv_at hl 0 rfl) ?_
  refine lv_aload_n hx hb dX2_addShifted_9 rfl (lv_at hl 2 rfl) ?_
  refine va_get (D := D) (ci := 2) (v := .ref pa) (C := RX2) (T := TX2) (N := 1) hx hb hts hinX2 hown hK.1 hP 0 rfl rfl 0 (by decide) (hts _ fl_X2_7) (fun _ h9 => h9) rfl dX2_addShifted_10 ?_
  refine va_alen (v := nI n) hx hb hK.1 hP 1 0 rfl rfl rfl dX2_addShifted_13 ?_
  refine ci_icmp_ge (X := ((sh + t : Nat) : Int)) (Y := ((n : Nat) : Int)) (tgt := 74) hx hb (sg_n (by omega)) (sg_n (by omega)) dX2_addShifted_14 rfl (fun h14 => ?_) (fun h14 => ?_)
  · have hP := sg_arr (g := dF (P + ff * (4294967296 ^ sh * Y))) 1 hP rfl (fun j hj => hlo j (by omega))
    have hD := sgD_adr (ws := [(a, .inr (2, [.ref pa])), (pa, .inl (cI, n, .inl f)), (b, .inr (2, [.ref pb])), (pb, .inl (cI, k, .inl (dF Y)))]) (ws' := [(a, .inr (2, [.ref pa])), (pa, .inl (cI, n, .inl (dF (P + ff * (4294967296 ^ sh * Y))))), (b, .inr (2, [.ref pb])), (pb, .inl (cI, k, .inl (dF Y)))]) rfl hD
    have hP : va_P D vwCl [(a, .inr (2, [.ref pa])), (pa, .inl (cI, n, .inl (dF (P + ff * (4294967296 ^ sh * Y))))), (b, .inr (2, [.ref pb])), (pb, .inl (cI, k, .inl (dF Y)))] H := hP
    have hD : va_D A [(a, .inr (2, [.ref pa])), (pa, .inl (cI, n, .inl (dF (P + ff * (4294967296 ^ sh * Y))))), (b, .inr (2, [.ref pb])), (pb, .inl (cI, k, .inl (dF Y)))] := hD
    exact W.vret hx hb hr (fun tZ ht hW => ⟨⟨(), rfl, trivial, by show va_P D vwCl _ tZ.heap; rw [ht]; exact hP⟩, hS.F ht⟩) hS.2.2 dX2_addShifted_74
  · refine lv_aload_n hx hb dX2_addShifted_17 rfl (lv_at hl 3 rfl) ?_
    refine lv_iload hx hb dX2_addShifted_18 (lv_at hl 0 rfl) ?_
    refine lv_iload hx hb dX2_addShifted_20 (lv_at hl 5 rfl) ?_
    refine n_isub hx hb dX2_addShifted_22 (by omega) ?_
    refine sw_i (y := nI t) (by rw [Nat.add_sub_cancel_left]) ?_
    refine sg_callRi (va_runV (As := [.int (nI t)]) (rest := []) (C := RX2) ⟨hx, hb, hml, hown, hts⟩ (c_part_dg l D cI cO b pb k Y t (by omega) (by omega) hY) ⟨(sg_cB 1 hts mcX2_part ml_X2_13 in_X2 rfl rfl (by decide +kernel) ⟨Nat.le_of_ble_eq_true rfl, Nat.le_of_ble_eq_true rfl⟩), hts _ im_X2_part, hts _ se_X2_part⟩ (sg_pV (q0 := 2) hK hP [2, 3] rfl rfl rfl rfl) rfl rfl hl.1 rfl (lv_room (Nat.le_of_ble_eq_true rfl)) dX2_addShifted_23 ⟨Nat.zero_le _, Nat.zero_le _⟩) ?_
    refine lv_i2l hx hb dX2_addShifted_26 rfl ?_
    refine lv_ldc2 (v := lN 4294967295) hx hb hown (hts _ kl_X2_17) dX2_addShifted_27 ?_
    refine lv_land hx hb dX2_addShifted_30 ?_
    refine sw_l (y := lN (dg 4294967296 t Y)) (sg_low (dg_lt (by decide) _ _)) ?_
    refine lv_lload_n hx hb dX2_addShifted_31 rfl (lv_at hl 4 rfl) ?_
    refine n_lmul hx hb dX2_addShifted_32 ?_
    refine lv_aload_n hx hb dX2_addShifted_33 rfl (lv_at hl 2 rfl) ?_
    refine va_get (D := D) (ci := 2) (v := .ref pa) (C := RX2) (T := TX2) (N := 1) hx hb hts hinX2 hown hK.1 hP 0 rfl rfl 0 (by decide) (hts _ fl_X2_7) (fun _ h9 => h9) rfl dX2_addShifted_34 ?_
    refine lv_iload hx hb dX2_addShifted_37 (lv_at hl 0 rfl) ?_
    refine n_iald (v := nI (dg 4294967296 (sh + t) P)) hx hb hK.1 hP 1 0 rfl rfl (by omega) (by omega) (hhi (sh + t) (Nat.le_refl _)) dX2_addShifted_39 ?_
    refine lv_i2l hx hb dX2_addShifted_40 rfl ?_
    refine lv_ldc2 (v := lN 4294967295) hx hb hown (hts _ kl_X2_17) dX2_addShifted_41 ?_
    refine lv_land hx hb dX2_addShifted_44 ?_
    refine sw_l (y := lN (dg 4294967296 (sh + t) P)) (sg_low (dg_lt (by decide) _ _)) ?_
    refine n_ladd hx hb dX2_addShifted_45 ?_
    refine lv_lload hx hb dX2_addShifted_46 (lv_at hl 1 rfl) ?_
    refine n_ladd hx hb dX2_addShifted_48 ?_
    refine lv_lstore hx hb dX2_addShifted_49 hl (by decide) rfl (fun ls hl => ?_)
    have hl : lv_has ls 10 [(8, .long (lN ((((dg 4294967296 t Y) * ff) + (dg 4294967296 (sh + t) P)) + cy))), (7, .int (nI (sh + t))), (5, .long (lN cy)), (0, .ref a), (1, .ref b), (2, .long (lN ff)), (4, .int (nI sh))] := hl
    refine lv_aload_n hx hb dX2_addShifted_51 rfl (lv_at hl 3 rfl) ?_
    refine va_get (D := D) (ci := 2) (v := .ref pa) (C := RX2) (T := TX2) (N := 1) hx hb hts hinX2 hown hK.1 hP 0 rfl rfl 0 (by decide) (hts _ fl_X2_7) (fun _ h9 => h9) rfl dX2_addShifted_52 ?_
    refine lv_iload hx hb dX2_addShifted_55 (lv_at hl 1 rfl) ?_
    refine lv_lload hx hb dX2_addShifted_57 (lv_at hl 0 rfl) ?_
    refine n_l2i hx hb dX2_addShifted_59 ?_
    refine n_iast hx hb hK.1 hP hD hS 1 0 rfl rfl (by omega) (by omega) dX2_addShifted_60 (fun H locs hP hD hS => ?_)
    have hP : va_P D vwCl [(a, .inr (2, [.ref pa])), (pa, .inl (cI, n, .inl (upd f (sh + t) (nI ((((dg 4294967296 t Y) * ff) + (dg 4294967296 (sh + t) P)) + cy))))), (b, .inr (2, [.ref pb])), (pb, .inl (cI, k, .inl (dF Y)))] H := hP
    have hD : va_D A [(a, .inr (2, [.ref pa])), (pa, .inl (cI, n, .inl (upd f (sh + t) (nI ((((dg 4294967296 t Y) * ff) + (dg 4294967296 (sh + t) P)) + cy))))), (b, .inr (2, [.ref pb])), (pb, .inl (cI, k, .inl (dF Y)))] := hD
    refine lv_lload hx hb dX2_addShifted_61 (lv_at hl 0 rfl) ?_
    refine lv_bipush (v := nI 32) hx hb dX2_addShifted_63 (by decide) ?_
    refine lv_lushr hx hb dX2_addShifted_65 rfl ?_
    refine sw_l (y := lN ((dg 4294967296 t Y * ff + dg 4294967296 (sh + t) P + cy) / 4294967296)) (sg_hi (sg_b64 (dg_lt (by decide) _ _) hff (dg_lt (by decide) _ _) (by rw [hc]; exact dgZ_le (by decide) _ _ _ _ _))) ?_
    refine lv_lstore hx hb dX2_addShifted_66 hl (by decide) rfl (fun ls hl => ?_)
    have hl : lv_has ls 10 [(5, .long (lN ((dg 4294967296 t Y * ff + dg 4294967296 (sh + t) P + cy) / 4294967296))), (8, .long (lN ((((dg 4294967296 t Y) * ff) + (dg 4294967296 (sh + t) P)) + cy))), (7, .int (nI (sh + t))), (0, .ref a), (1, .ref b), (2, .long (lN ff)), (4, .int (nI sh))] := hl
    refine lv_iinc (v := nI ((sh + t) + 1)) hx hb dX2_addShifted_68 hl (k := 2) rfl (sg_inc _) (by decide) rfl (fun ls hl => ?_)
    have hl : lv_has ls 10 [(7, .int (nI ((sh + t) + 1))), (5, .long (lN ((dg 4294967296 t Y * ff + dg 4294967296 (sh + t) P + cy) / 4294967296))), (8, .long (lN ((((dg 4294967296 t Y) * ff) + (dg 4294967296 (sh + t) P)) + cy))), (0, .ref a), (1, .ref b), (2, .long (lN ff)), (4, .int (nI sh))] := hl
    refine lv_goto (tgt := 7) hx hb dX2_addShifted_71 rfl ?_
    exact ih7 _ _ _ _ ⟨t + 1, (dg 4294967296 t Y * ff + dg 4294967296 (sh + t) P + cy) / 4294967296, upd f (sh + t) (nI ((((dg 4294967296 t Y) * ff) + (dg 4294967296 (sh + t) P)) + cy)), rfl, lv_sub hl [0, 1, 3, 4, 5, 6] rfl, hP, hD, hS, by omega, by rw [hc, dgZ_sum (by decide), dgZ_carry], sg_updlt hlo (by rw [hc, dgZ_sum (by decide), nI_mod, dgZ_dg (by decide)]; rfl), sg_updge hhi⟩ (by omega)
set_option maxHeartbeats 4000000 in
set_option maxRecDepth 100000 in
theorem c_X2_setProduct (l : Launch) (D : va_G) (cI cO : ClassId) (a : Nat) (pa : Nat) (n : Nat) (f : Nat → Int32) (b : Nat) (pb : Nat) (k : Nat) (X : Nat) (d : Nat) (pd : Nat) (Y : Nat) (hn : n < 1073741824) (hk : k ≤ n) (hX : X < 4294967296 ^ k) (hY : Y < 4294967296 ^ k) : Met l yX2_setProduct (.code yX2_setProduct cX2_setProduct 4 none :: sgT) ({ frames := 2, cells := 0, slots := 0, locals := 50 }) (sgWc D cI cO [.ref a, .ref b, .ref d] [(a, .inr (2, [.ref pa])), (pa, .inl (cI, n, .inl f)), (b, .inr (2, [.ref pb])), (pb, .inl (cI, k, .inl (dF X))), (d, .inr (2, [.ref pd])), (pd, .inl (cI, k, .inl (dF Y)))]) (va_Qv (fun uZ : Unit => True) (fun uZ t => va_P D vwCl [(a, .inr (2, [.ref pa])), (pa, .inl (cI, n, .inl (dF (X * Y)))), (b, .inr (2, [.ref pb])), (pb, .inl (cI, k, .inl (dF X))), (d, .inr (2, [.ref pd])), (pd, .inl (cI, k, .inl (dF Y)))] t.heap) (xA [(a, .inr (2, [.ref pa])), (pa, .inl (cI, n, .inl f)), (b, .inr (2, [.ref pb])), (pb, .inl (cI, k, .inl (dF X))), (d, .inr (2, [.ref pd])), (pd, .inl (cI, k, .inl (dF Y)))])) 0 0 (xA [(a, .inr (2, [.ref pa])), (pa, .inl (cI, n, .inl f)), (b, .inr (2, [.ref pb])), (pb, .inl (cI, k, .inl (dF X))), (d, .inr (2, [.ref pd])), (pd, .inl (cI, k, .inl (dF Y)))]) := by
  refine Met.ofW (cc := cX2_setProduct) (maxL := 4) (ret := none) (by decide) rfl ?_
  intro pZ eZ sZ mZ argsZ belowZ methZ cZ s₁ BZ hml hv
  obtain ⟨rfl, hP, hK, hD0⟩ := hv
  have hx := BZ.exec
  have hb := BZ.bytes
  have hr := BZ.returns
  have hts : ∀ wZ ∈ sgT, wZ.before ([.ref a, .ref b, .ref d] : List Value).toArray sZ = true := fun wZ h => atoms_spec (ws := (.code yX2_setProduct cX2_setProduct 4 none :: sgT)) BZ.pre wZ (List.mem_cons_of_mem _ h)
  have hown : sZ.vm.findClass RX2 = some mZ.cls := findClass_of_methodNamed BZ.named
  have hlocks := BZ.notSynchronized
  have hD : va_D (xA [(a, .inr (2, [.ref pa])), (pa, .inl (cI, n, .inl f)), (b, .inr (2, [.ref pb])), (pb, .inl (cI, k, .inl (dF X))), (d, .inr (2, [.ref pd])), (pd, .inl (cI, k, .inl (dF Y)))]) [(a, .inr (2, [.ref pa])), (pa, .inl (cI, n, .inl f)), (b, .inr (2, [.ref pb])), (pb, .inl (cI, k, .inl (dF X))), (d, .inr (2, [.ref pd])), (pd, .inl (cI, k, .inl (dF Y)))] := ⟨hD0.1, fun k q h => ⟨k, q.2, h⟩⟩
  generalize hAe : xA [(a, .inr (2, [.ref pa])), (pa, .inl (cI, n, .inl f)), (b, .inr (2, [.ref pb])), (pb, .inl (cI, k, .inl (dF X))), (d, .inr (2, [.ref pd])), (pd, .inl (cI, k, .inl (dF Y)))] = A at hD ⊢
  have hS : va_S A sZ.heap sZ.heap [] := va_S.rf
  have hl := lv_entry ([.ref a, .ref b, .ref d]) (n := 4) (Nat.le_of_ble_eq_true rfl)
  rw [lg_entry_eq]
  generalize (lg_sl ([.ref a, .ref b, .ref d]) ++ List.replicate (4 - (lg_sl ([.ref a, .ref b, .ref d])).length) Slot.unset).toArray = ls at hl ⊢
  have hl : lv_has ls 4 [(0, .ref a), (1, .ref b), (2, .ref d)] := hl
  have hP : va_P D vwCl [(a, .inr (2, [.ref pa])), (pa, .inl (cI, n, .inl f)), (b, .inr (2, [.ref pb])), (pb, .inl (cI, k, .inl (dF X))), (d, .inr (2, [.ref pd])), (pd, .inl (cI, k, .inl (dF Y)))] sZ.heap := hP
  refine lv_iconst (v := nI 0) hx hb dX2_setProduct_0 (by decide) ?_
  refine lv_istore_n hx hb dX2_setProduct_1 rfl hl (by decide) rfl (fun ls hl => ?_)
  have hl : lv_has ls 4 [(3, .int (nI 0)), (0, .ref a), (1, .ref b), (2, .ref d)] := hl
  refine sw_loop (I := fun kM ls H locs => ∃ (i : Nat) (f : Nat → Int32), kM = n - i ∧ lv_has ls 4 [(3, .int (nI i)), (0, .ref a), (1, .ref b), (2, .ref d)] ∧ va_P D vwCl [(a, .inr (2, [.ref pa])), (pa, .inl (cI, n, .inl f)), (b, .inr (2, [.ref pb])), (pb, .inl (cI, k, .inl (dF X))), (d, .inr (2, [.ref pd])), (pd, .inl (cI, k, .inl (dF Y)))] H ∧ va_D A [(a, .inr (2, [.ref pa])), (pa, .inl (cI, n, .inl f)), (b, .inr (2, [.ref pb])), (pb, .inl (cI, k, .inl (dF X))), (d, .inr (2, [.ref pd])), (pd, .inl (cI, k, .inl (dF Y)))] ∧ va_S A sZ.heap H locs ∧ (i ≤ n) ∧ (∀ j, j < i → f j = nI 0)) ?_ _ ⟨0, f, rfl, hl, hP, hD, hS, by omega, fun j hj => absurd hj (Nat.not_lt_zero _)⟩
  intro kM ls H locs hI ih2
  obtain ⟨i, f, hkM, hl, hP, hD, hS, hi, hf⟩ := hI
  refine lv_iload_n hx hb dX2_setProduct_2 rfl (lv_at hl 0 rfl) ?_
  refine lv_aload_n hx hb dX2_setProduct_3 rfl (lv_at hl 1 rfl) ?_
  refine va_get (D := D) (ci := 2) (v := .ref pa) (C := RX2) (T := TX2) (N := 1) hx hb hts hinX2 hown hK.1 hP 0 rfl rfl 0 (by decide) (hts _ fl_X2_7) (fun _ h9 => h9) rfl dX2_setProduct_4 ?_
  refine va_alen (v := nI n) hx hb hK.1 hP 1 0 rfl rfl rfl dX2_setProduct_7 ?_
  refine ci_icmp_ge (X := ((i : Nat) : Int)) (Y := ((n : Nat) : Int)) (tgt := 24) hx hb (sg_n (by omega)) (sg_n (by omega)) dX2_setProduct_8 rfl (fun h8 => ?_) (fun h8 => ?_)
  · have hP := sg_arr (g := dF (X % 4294967296 ^ 0 * Y)) 1 hP rfl (fun j hj => (hf j (by omega)).trans (by rw [Nat.pow_zero, Nat.mod_one, Nat.zero_mul]; exact (dF_zero j).symm))
    have hD := sgD_adr (ws := [(a, .inr (2, [.ref pa])), (pa, .inl (cI, n, .inl f)), (b, .inr (2, [.ref pb])), (pb, .inl (cI, k, .inl (dF X))), (d, .inr (2, [.ref pd])), (pd, .inl (cI, k, .inl (dF Y)))]) (ws' := [(a, .inr (2, [.ref pa])), (pa, .inl (cI, n, .inl (dF (X % 4294967296 ^ 0 * Y)))), (b, .inr (2, [.ref pb])), (pb, .inl (cI, k, .inl (dF X))), (d, .inr (2, [.ref pd])), (pd, .inl (cI, k, .inl (dF Y)))]) rfl hD
    have hP : va_P D vwCl [(a, .inr (2, [.ref pa])), (pa, .inl (cI, n, .inl (dF (X % 4294967296 ^ 0 * Y)))), (b, .inr (2, [.ref pb])), (pb, .inl (cI, k, .inl (dF X))), (d, .inr (2, [.ref pd])), (pd, .inl (cI, k, .inl (dF Y)))] H := hP
    have hD : va_D A [(a, .inr (2, [.ref pa])), (pa, .inl (cI, n, .inl (dF (X % 4294967296 ^ 0 * Y)))), (b, .inr (2, [.ref pb])), (pb, .inl (cI, k, .inl (dF X))), (d, .inr (2, [.ref pd])), (pd, .inl (cI, k, .inl (dF Y)))] := hD
    refine lv_iconst (v := nI 0) hx hb dX2_setProduct_24 (by decide) ?_
    refine lv_istore_n hx hb dX2_setProduct_25 rfl hl (by decide) rfl (fun ls hl => ?_)
    have hl : lv_has ls 4 [(3, .int (nI 0)), (0, .ref a), (1, .ref b), (2, .ref d)] := hl
    refine sw_loop (I := fun kM ls H locs => ∃ (i : Nat), kM = k - i ∧ lv_has ls 4 [(3, .int (nI i)), (0, .ref a), (1, .ref b), (2, .ref d)] ∧ va_P D vwCl [(a, .inr (2, [.ref pa])), (pa, .inl (cI, n, .inl (dF (X % 4294967296 ^ i * Y)))), (b, .inr (2, [.ref pb])), (pb, .inl (cI, k, .inl (dF X))), (d, .inr (2, [.ref pd])), (pd, .inl (cI, k, .inl (dF Y)))] H ∧ va_D A [(a, .inr (2, [.ref pa])), (pa, .inl (cI, n, .inl (dF (X % 4294967296 ^ i * Y)))), (b, .inr (2, [.ref pb])), (pb, .inl (cI, k, .inl (dF X))), (d, .inr (2, [.ref pd])), (pd, .inl (cI, k, .inl (dF Y)))] ∧ va_S A sZ.heap H locs ∧ (i ≤ k)) ?_ _ ⟨0, rfl, hl, hP, hD, hS, by omega⟩
    intro kM ls H locs hI ih26
    obtain ⟨i, hkM, hl, hP, hD, hS, hi⟩ := hI
    refine lv_iload_n hx hb dX2_setProduct_26 rfl (lv_at hl 0 rfl) ?_
    refine lv_aload_n hx hb dX2_setProduct_27 rfl (lv_at hl 2 rfl) ?_
    refine va_get (D := D) (ci := 2) (v := .ref pb) (C := RX2) (T := TX2) (N := 1) hx hb hts hinX2 hown hK.1 hP 2 rfl rfl 0 (by decide) (hts _ fl_X2_7) (fun _ h9 => h9) rfl dX2_setProduct_28 ?_
    refine va_alen (v := nI k) hx hb hK.1 hP 3 0 rfl rfl rfl dX2_setProduct_31 ?_
    refine ci_icmp_ge (X := ((i : Nat) : Int)) (Y := ((k : Nat) : Int)) (tgt := 58) hx hb (sg_n (by omega)) (sg_n (by omega)) dX2_setProduct_32 rfl (fun h32 => ?_) (fun h32 => ?_)
    · have hik : i = k := by omega
      subst hik
      rw [Nat.mod_eq_of_lt hX] at hP hD
      exact W.vret hx hb hr (fun tZ ht hW => ⟨⟨(), rfl, trivial, by show va_P D vwCl _ tZ.heap; rw [ht]; exact hP⟩, hS.F ht⟩) hS.2.2 dX2_setProduct_58
    · refine lv_aload_n hx hb dX2_setProduct_35 rfl (lv_at hl 1 rfl) ?_
      refine lv_aload_n hx hb dX2_setProduct_36 rfl (lv_at hl 3 rfl) ?_
      refine lv_aload_n hx hb dX2_setProduct_37 rfl (lv_at hl 2 rfl) ?_
      refine va_get (D := D) (ci := 2) (v := .ref pb) (C := RX2) (T := TX2) (N := 1) hx hb hts hinX2 hown hK.1 hP 2 rfl rfl 0 (by decide) (hts _ fl_X2_7) (fun _ h9 => h9) rfl dX2_setProduct_38 ?_
      refine lv_iload_n hx hb dX2_setProduct_41 rfl (lv_at hl 0 rfl) ?_
      refine n_iald (v := nI (dg 4294967296 i X)) hx hb hK.1 hP 3 0 rfl rfl (by omega) (by omega) rfl dX2_setProduct_42 ?_
      refine lv_i2l hx hb dX2_setProduct_43 rfl ?_
      refine lv_ldc2 (v := lN 4294967295) hx hb hown (hts _ kl_X2_17) dX2_setProduct_44 ?_
      refine lv_land hx hb dX2_setProduct_47 ?_
      refine sw_l (y := lN (dg 4294967296 i X)) (sg_low (dg_lt (by decide) _ _)) ?_
      refine lv_iload_n hx hb dX2_setProduct_48 rfl (lv_at hl 0 rfl) ?_
      refine sg_callWv (fun _ => [(a, .inr (2, [.ref pa])), (pa, .inl (cI, n, .inl (dF ((X % 4294967296 ^ i * Y) + (dg 4294967296 i X) * (4294967296 ^ i * Y))))), (b, .inr (2, [.ref pb])), (pb, .inl (cI, k, .inl (dF X))), (d, .inr (2, [.ref pd])), (pd, .inl (cI, k, .inl (dF Y)))]) [(true, 0), (true, 1), (false, 2), (false, 3), (true, 2), (true, 3)] (va_runV (As := [.ref d, .long (lN (dg 4294967296 i X)), .int (nI i)]) (rest := []) (C := RX2) ⟨hx, hb, hml, hown, hts⟩ (c_X2_addShifted l D cI cO a pa n (X % 4294967296 ^ i * Y) d pd k Y (dg 4294967296 i X) i (by omega) (by omega) (dg_lt (by decide) _ _) (by omega) hY) ⟨(sg_cB 3 hts mcX2_addShifted ml_X2_19 in_X2 rfl rfl (by decide +kernel) ⟨Nat.le_of_ble_eq_true rfl, Nat.le_of_ble_eq_true rfl⟩), hts _ im_X2_addShifted, hts _ se_X2_addShifted⟩ (sg_wV (q0 := 0) hK hP hD [0, 1, 4, 5] (by decide) rfl rfl rfl rfl) rfl rfl hl.1 rfl (lv_room (Nat.le_of_ble_eq_true rfl)) dX2_setProduct_49 ⟨Nat.zero_le _, Nat.zero_le _⟩) hP hD hS [0, 1, 4, 5] rfl (fun _ => rfl) (by decide) (fun _ => rfl) (fun u49 H locs hw49 hP hD hS => ?_)
      rw [← dg_prod] at hP hD
      have hP : va_P D vwCl [(a, .inr (2, [.ref pa])), (pa, .inl (cI, n, .inl (dF (X % 4294967296 ^ (i + 1) * Y)))), (b, .inr (2, [.ref pb])), (pb, .inl (cI, k, .inl (dF X))), (d, .inr (2, [.ref pd])), (pd, .inl (cI, k, .inl (dF Y)))] H := hP
      have hD : va_D A [(a, .inr (2, [.ref pa])), (pa, .inl (cI, n, .inl (dF (X % 4294967296 ^ (i + 1) * Y)))), (b, .inr (2, [.ref pb])), (pb, .inl (cI, k, .inl (dF X))), (d, .inr (2, [.ref pd])), (pd, .inl (cI, k, .inl (dF Y)))] := hD
      refine lv_iinc (v := nI (i + 1)) hx hb dX2_setProduct_52 hl (k := 0) rfl (sg_inc _) (by decide) rfl (fun ls hl => ?_)
      have hl : lv_has ls 4 [(3, .int (nI (i + 1))), (0, .ref a), (1, .ref b), (2, .ref d)] := hl
      refine lv_goto (tgt := 26) hx hb dX2_setProduct_55 rfl ?_
      exact ih26 _ _ _ _ ⟨i + 1, rfl, lv_sub hl [0, 1, 2, 3] rfl, hP, hD, hS, by omega⟩ (by omega)
  · refine lv_aload_n hx hb dX2_setProduct_11 rfl (lv_at hl 1 rfl) ?_
    refine va_get (D := D) (ci := 2) (v := .ref pa) (C := RX2) (T := TX2) (N := 1) hx hb hts hinX2 hown hK.1 hP 0 rfl rfl 0 (by decide) (hts _ fl_X2_7) (fun _ h9 => h9) rfl dX2_setProduct_12 ?_
    refine lv_iload_n hx hb dX2_setProduct_15 rfl (lv_at hl 0 rfl) ?_
    refine lv_iconst (v := nI 0) hx hb dX2_setProduct_16 (by decide) ?_
    refine n_iast hx hb hK.1 hP hD hS 1 0 rfl rfl (by omega) (by omega) dX2_setProduct_17 (fun H locs hP hD hS => ?_)
    have hP : va_P D vwCl [(a, .inr (2, [.ref pa])), (pa, .inl (cI, n, .inl (upd f i (nI 0)))), (b, .inr (2, [.ref pb])), (pb, .inl (cI, k, .inl (dF X))), (d, .inr (2, [.ref pd])), (pd, .inl (cI, k, .inl (dF Y)))] H := hP
    have hD : va_D A [(a, .inr (2, [.ref pa])), (pa, .inl (cI, n, .inl (upd f i (nI 0)))), (b, .inr (2, [.ref pb])), (pb, .inl (cI, k, .inl (dF X))), (d, .inr (2, [.ref pd])), (pd, .inl (cI, k, .inl (dF Y)))] := hD
    refine lv_iinc (v := nI (i + 1)) hx hb dX2_setProduct_18 hl (k := 0) rfl (sg_inc _) (by decide) rfl (fun ls hl => ?_)
    have hl : lv_has ls 4 [(3, .int (nI (i + 1))), (0, .ref a), (1, .ref b), (2, .ref d)] := hl
    refine lv_goto (tgt := 2) hx hb dX2_setProduct_21 rfl ?_
    exact ih2 _ _ _ _ ⟨i + 1, upd f i (nI 0), rfl, lv_sub hl [0, 1, 2, 3] rfl, hP, hD, hS, by omega, sg_updlt (g := fun _ => nI 0) hf rfl⟩ (by omega)
set_option maxHeartbeats 4000000 in
set_option maxRecDepth 100000 in
theorem c_J6_compare (l : Launch) (D : va_G) (cI cO : ClassId) (x : Int32) (y : Int32)  : Met l yJ6_compare (.code yJ6_compare cJ6_compare 2 (some .int) :: sgT) ({ frames := 0, cells := 0, slots := 0, locals := 0 }) (sgPc D cI cO [.int x, .int y] []) (vp_Si (fun r => r = cmpI x y)) 0 0 (fun _ => False) := by
  refine Met.ofW (cc := cJ6_compare) (maxL := 2) (ret := (some .int)) (by decide) rfl ?_
  intro pZ eZ sZ mZ argsZ belowZ methZ cZ s₁ BZ hml hv
  obtain ⟨rfl, hP, hK⟩ := hv
  have hx := BZ.exec
  have hb := BZ.bytes
  have hr := BZ.returns
  have hts : ∀ wZ ∈ sgT, wZ.before ([.int x, .int y] : List Value).toArray sZ = true := fun wZ h => atoms_spec (ws := (.code yJ6_compare cJ6_compare 2 (some .int) :: sgT)) BZ.pre wZ (List.mem_cons_of_mem _ h)
  have hown : sZ.vm.findClass RJ6 = some mZ.cls := findClass_of_methodNamed BZ.named
  have hlocks := BZ.notSynchronized
  have hl := lv_entry ([.int x, .int y]) (n := 2) (Nat.le_of_ble_eq_true rfl)
  rw [lg_entry_eq]
  generalize (lg_sl ([.int x, .int y]) ++ List.replicate (2 - (lg_sl ([.int x, .int y])).length) Slot.unset).toArray = ls at hl ⊢
  have hl : lv_has ls 2 [(0, .int x), (1, .int y)] := hl
  refine lv_iload_n hx hb dJ6_compare_0 rfl (lv_at hl 0 rfl) ?_
  refine lv_iload_n hx hb dJ6_compare_1 rfl (lv_at hl 1 rfl) ?_
  refine ci_icmp_ge (X := x.toInt) (Y := y.toInt) (tgt := 9) hx hb rfl rfl dJ6_compare_2 rfl (fun h2 => ?_) (fun h2 => ?_)
  · refine lv_iload_n hx hb dJ6_compare_9 rfl (lv_at hl 0 rfl) ?_
    refine lv_iload_n hx hb dJ6_compare_10 rfl (lv_at hl 1 rfl) ?_
    refine ci_icmp_ne (X := x.toInt) (Y := y.toInt) (tgt := 18) hx hb rfl rfl dJ6_compare_11 rfl (fun h11 => ?_) (fun h11 => ?_)
    · refine lv_iconst (v := nI 1) hx hb dJ6_compare_18 (by decide) ?_
      exact W.iret hx hb hr (fun tZ ht hW => ⟨_, rfl, (by unfold cmpI; rw [if_neg (by omega), if_neg (by omega)]), ht⟩) (fun q h => by cases h) dJ6_compare_19
    · refine lv_iconst (v := nI 0) hx hb dJ6_compare_14 (by decide) ?_
      refine lv_goto (tgt := 19) hx hb dJ6_compare_15 rfl ?_
      exact W.iret hx hb hr (fun tZ ht hW => ⟨_, rfl, (by unfold cmpI; rw [if_neg (by omega), if_pos (by omega)]), ht⟩) (fun q h => by cases h) dJ6_compare_19
  · refine lv_iconst (v := -1) hx hb dJ6_compare_5 (by decide) ?_
    refine lv_goto (tgt := 19) hx hb dJ6_compare_6 rfl ?_
    exact W.iret hx hb hr (fun tZ ht hW => ⟨_, rfl, (by unfold cmpI; rw [if_pos (by omega)]), ht⟩) (fun q h => by cases h) dJ6_compare_19
set_option maxHeartbeats 4000000 in
set_option maxRecDepth 100000 in
theorem c_J6_compareUnsigned (l : Launch) (D : va_G) (cI cO : ClassId) (x : Nat) (y : Nat) (hxb : x < 4294967296) (hyb : y < 4294967296) : Met l yJ6_compareUnsigned (.code yJ6_compareUnsigned cJ6_compareUnsigned 2 (some .int) :: sgT) ({ frames := 1, cells := 0, slots := 0, locals := 21 }) (sgPc D cI cO [.int (nI x), .int (nI y)] []) (vp_Si (fun r => r = cmpN x y)) 0 0 (fun _ => False) := by
  refine Met.ofW (cc := cJ6_compareUnsigned) (maxL := 2) (ret := (some .int)) (by decide) rfl ?_
  intro pZ eZ sZ mZ argsZ belowZ methZ cZ s₁ BZ hml hv
  obtain ⟨rfl, hP, hK⟩ := hv
  have hx := BZ.exec
  have hb := BZ.bytes
  have hr := BZ.returns
  have hts : ∀ wZ ∈ sgT, wZ.before ([.int (nI x), .int (nI y)] : List Value).toArray sZ = true := fun wZ h => atoms_spec (ws := (.code yJ6_compareUnsigned cJ6_compareUnsigned 2 (some .int) :: sgT)) BZ.pre wZ (List.mem_cons_of_mem _ h)
  have hown : sZ.vm.findClass RJ6 = some mZ.cls := findClass_of_methodNamed BZ.named
  have hlocks := BZ.notSynchronized
  have hl := lv_entry ([.int (nI x), .int (nI y)]) (n := 2) (Nat.le_of_ble_eq_true rfl)
  rw [lg_entry_eq]
  generalize (lg_sl ([.int (nI x), .int (nI y)]) ++ List.replicate (2 - (lg_sl ([.int (nI x), .int (nI y)])).length) Slot.unset).toArray = ls at hl ⊢
  have hl : lv_has ls 2 [(0, .int (nI x)), (1, .int (nI y))] := hl
  refine lv_iload_n hx hb dJ6_compareUnsigned_0 rfl (lv_at hl 0 rfl) ?_
  refine lv_ldc (v := -2147483648) hx hb hown (hts _ ki_J6_127) dJ6_compareUnsigned_1 ?_
  refine lv_iadd hx hb dJ6_compareUnsigned_3 ?_
  refine lv_iload_n hx hb dJ6_compareUnsigned_4 rfl (lv_at hl 1 rfl) ?_
  refine lv_ldc (v := -2147483648) hx hb hown (hts _ ki_J6_127) dJ6_compareUnsigned_5 ?_
  refine lv_iadd hx hb dJ6_compareUnsigned_7 ?_
  refine sg_callRi (va_runS (As := [.int ((nI x) + (-2147483648)), .int ((nI y) + (-2147483648))]) (rest := []) ⟨hx, hb, hml, hown, hts⟩ (c_J6_compare l D cI cO ((nI x) + (-2147483648)) ((nI y) + (-2147483648))) ⟨(sg_cB 2 hts mcJ6_compare ml_J6_259 in_J6 rfl rfl (by decide +kernel) ⟨Nat.le_of_ble_eq_true rfl, Nat.le_of_ble_eq_true rfl⟩), hts _ st_J6_compare⟩ (sg_pS hK hP [] rfl) rfl rfl hl.1 rfl (lv_room (Nat.le_of_ble_eq_true rfl)) dJ6_compareUnsigned_8 ⟨Nat.zero_le _, Nat.zero_le _⟩) ?_
  refine sw_i (y := cmpN x y) (cmpI_N (sg_uns hxb) (sg_uns hyb)) ?_
  exact W.iret hx hb hr (fun tZ ht hW => ⟨_, rfl, rfl, ht⟩) (fun q h => by cases h) dJ6_compareUnsigned_11
set_option maxHeartbeats 4000000 in
set_option maxRecDepth 100000 in
theorem c_X2_compare (l : Launch) (D : va_G) (cI cO : ClassId) (a : Nat) (pa : Nat) (n : Nat) (X : Nat) (b : Nat) (pb : Nat) (Y : Nat) (hn : n < 1073741824) (hX : X < 4294967296 ^ n) (hY : Y < 4294967296 ^ n) : Met l yX2_compare (.code yX2_compare cX2_compare 4 (some .int) :: sgT) ({ frames := 2, cells := 0, slots := 0, locals := 42 }) (sgPc D cI cO [.ref a, .ref b] [(a, .inr (2, [.ref pa])), (pa, .inl (cI, n, .inl (dF X))), (b, .inr (2, [.ref pb])), (pb, .inl (cI, n, .inl (dF Y)))]) (vp_Si (fun r => r = cmpN X Y)) 0 0 (fun _ => False) := by
  refine Met.ofW (cc := cX2_compare) (maxL := 4) (ret := (some .int)) (by decide) rfl ?_
  intro pZ eZ sZ mZ argsZ belowZ methZ cZ s₁ BZ hml hv
  obtain ⟨rfl, hP, hK⟩ := hv
  have hx := BZ.exec
  have hb := BZ.bytes
  have hr := BZ.returns
  have hts : ∀ wZ ∈ sgT, wZ.before ([.ref a, .ref b] : List Value).toArray sZ = true := fun wZ h => atoms_spec (ws := (.code yX2_compare cX2_compare 4 (some .int) :: sgT)) BZ.pre wZ (List.mem_cons_of_mem _ h)
  have hown : sZ.vm.findClass RX2 = some mZ.cls := findClass_of_methodNamed BZ.named
  have hlocks := BZ.notSynchronized
  have hl := lv_entry ([.ref a, .ref b]) (n := 4) (Nat.le_of_ble_eq_true rfl)
  rw [lg_entry_eq]
  generalize (lg_sl ([.ref a, .ref b]) ++ List.replicate (4 - (lg_sl ([.ref a, .ref b])).length) Slot.unset).toArray = ls at hl ⊢
  have hl : lv_has ls 4 [(0, .ref a), (1, .ref b)] := hl
  refine lv_aload_n hx hb dX2_compare_0 rfl (lv_at hl 0 rfl) ?_
  refine va_get (D := D) (ci := 2) (v := .ref pa) (C := RX2) (T := TX2) (N := 1) hx hb hts hinX2 hown hK.1 hP 0 rfl rfl 0 (by decide) (hts _ fl_X2_7) (fun _ h9 => h9) rfl dX2_compare_1 ?_
  refine va_alen (v := nI n) hx hb hK.1 hP 1 0 rfl rfl rfl dX2_compare_4 ?_
  refine lv_iconst (v := nI 1) hx hb dX2_compare_5 (by decide) ?_
  refine lv_isub hx hb dX2_compare_6 ?_
  refine lv_istore_n hx hb dX2_compare_7 rfl hl (by decide) rfl (fun ls hl => ?_)
  have hl : lv_has ls 4 [(2, .int ((nI n) - (nI 1))), (0, .ref a), (1, .ref b)] := hl
  refine sw_loopR (I := fun kM ls => ∃ (t : Nat), kM = t ∧ lv_has ls 4 [(2, .int (nI t - nI 1)), (0, .ref a), (1, .ref b)] ∧ (t ≤ n) ∧ (X / 4294967296 ^ t = Y / 4294967296 ^ t)) ?_ _ ⟨n, rfl, hl, by omega, dg_top hX hY⟩
  intro kM ls hI ih8
  obtain ⟨t, hkM, hl, hi, hq⟩ := hI
  refine lv_iload_n hx hb dX2_compare_8 rfl (lv_at hl 0 rfl) ?_
  refine ci_if_lt (X := ((t : Int) - 1)) (tgt := 47) hx hb (pk_sub_toInt (a := t) (b := 1) (by omega) (by omega)) dX2_compare_9 rfl (fun h9 => ?_) (fun h9 => ?_)
  · refine lv_iconst (v := nI 0) hx hb dX2_compare_47 (by decide) ?_
    exact W.iret hx hb hr (fun tZ ht hW => ⟨_, rfl, (by have h0 : t = 0 := (by omega); subst h0; rw [Nat.pow_zero, Nat.div_one, Nat.div_one] at hq; subst hq; unfold cmpN; rw [if_neg (Nat.lt_irrefl _), if_pos rfl]), ht⟩) (fun q h => by cases h) dX2_compare_48
  · refine lv_aload_n hx hb dX2_compare_12 rfl (lv_at hl 1 rfl) ?_
    refine va_get (D := D) (ci := 2) (v := .ref pa) (C := RX2) (T := TX2) (N := 1) hx hb hts hinX2 hown hK.1 hP 0 rfl rfl 0 (by decide) (hts _ fl_X2_7) (fun _ h9 => h9) rfl dX2_compare_13 ?_
    refine lv_iload_n hx hb dX2_compare_16 rfl (lv_at hl 0 rfl) ?_
    refine sw_i (y := nI (t - 1)) (pk_sub (by omega)) ?_
    refine n_iald (v := nI (dg 4294967296 (t - 1) X)) hx hb hK.1 hP 1 0 rfl rfl (by omega) (by omega) rfl dX2_compare_17 ?_
    refine lv_aload_n hx hb dX2_compare_18 rfl (lv_at hl 2 rfl) ?_
    refine lv_iload_n hx hb dX2_compare_19 rfl (lv_at hl 0 rfl) ?_
    refine sw_i (y := nI (t - 1)) (pk_sub (by omega)) ?_
    refine sg_callRi (va_runV (As := [.int (nI (t - 1))]) (rest := [.int (nI (dg 4294967296 (t - 1) X))]) (C := RX2) ⟨hx, hb, hml, hown, hts⟩ (c_part_dg l D cI cO b pb n Y (t - 1) (by omega) (by omega) hY) ⟨(sg_cB 1 hts mcX2_part ml_X2_13 in_X2 rfl rfl (by decide +kernel) ⟨Nat.le_of_ble_eq_true rfl, Nat.le_of_ble_eq_true rfl⟩), hts _ im_X2_part, hts _ se_X2_part⟩ (sg_pV (q0 := 2) hK hP [2, 3] rfl rfl rfl rfl) rfl rfl hl.1 rfl (lv_room (Nat.le_of_ble_eq_true rfl)) dX2_compare_20 ⟨Nat.zero_le _, Nat.zero_le _⟩) ?_
    refine sg_callRi (va_runS (As := [.int (nI (dg 4294967296 (t - 1) X)), .int (nI (dg 4294967296 (t - 1) Y))]) (rest := []) ⟨hx, hb, hml, hown, hts⟩ (c_J6_compareUnsigned l D cI cO (dg 4294967296 (t - 1) X) (dg 4294967296 (t - 1) Y) (dg_lt (by decide) _ _) (dg_lt (by decide) _ _)) ⟨(sg_cB 2 hts mcJ6_compareUnsigned ml_X2_23 in_J6 rfl rfl (by decide +kernel) ⟨Nat.le_of_ble_eq_true rfl, Nat.le_of_ble_eq_true rfl⟩), hts _ st_J6_compareUnsigned⟩ (sg_pS hK hP [] rfl) rfl rfl hl.1 rfl (lv_room (Nat.le_of_ble_eq_true rfl)) dX2_compare_23 ⟨Nat.zero_le _, Nat.zero_le _⟩) ?_
    refine lv_istore_n hx hb dX2_compare_26 rfl hl (by decide) rfl (fun ls hl => ?_)
    have hl : lv_has ls 4 [(3, .int (cmpN (dg 4294967296 (t - 1) X) (dg 4294967296 (t - 1) Y))), (2, .int (nI t - nI 1)), (0, .ref a), (1, .ref b)] := hl
    refine lv_iload_n hx hb dX2_compare_27 rfl (lv_at hl 0 rfl) ?_
    refine ci_if_eq (X := (if (dg 4294967296 (t - 1) X) < (dg 4294967296 (t - 1) Y) then (-1 : Int) else if (dg 4294967296 (t - 1) X) = (dg 4294967296 (t - 1) Y) then 0 else 1)) (tgt := 41) hx hb (cmpN_toInt _ _) dX2_compare_28 rfl (fun h28 => ?_) (fun h28 => ?_)
    · refine lv_iinc (v := nI (t - 1) - nI 1) hx hb dX2_compare_41 hl (k := 1) rfl (sg_dec1 (by omega)) (by decide) rfl (fun ls hl => ?_)
      have hl : lv_has ls 4 [(2, .int (nI (t - 1) - nI 1)), (3, .int (cmpN (dg 4294967296 (t - 1) X) (dg 4294967296 (t - 1) Y))), (0, .ref a), (1, .ref b)] := hl
      refine lv_goto (tgt := 8) hx hb dX2_compare_44 rfl ?_
      exact ih8 _ _ ⟨t - 1, rfl, lv_sub hl [0, 2, 3] rfl, by omega, dg_eq (by rw [Nat.sub_add_cancel (by omega)]; exact hq) (by omega)⟩ (by omega)
    · refine lv_iload_n hx hb dX2_compare_31 rfl (lv_at hl 0 rfl) ?_
      refine ci_if_ge (X := (if (dg 4294967296 (t - 1) X) < (dg 4294967296 (t - 1) Y) then (-1 : Int) else if (dg 4294967296 (t - 1) X) = (dg 4294967296 (t - 1) Y) then 0 else 1)) (tgt := 39) hx hb (cmpN_toInt _ _) dX2_compare_32 rfl (fun h32 => ?_) (fun h32 => ?_)
      · refine lv_iconst (v := nI 1) hx hb dX2_compare_39 (by decide) ?_
        exact W.iret hx hb hr (fun tZ ht hW => ⟨_, rfl, (by have h1 := dg_less (i := t - 1) (X := Y) (Y := X) (by rw [Nat.sub_add_cancel (by omega)]; exact hq.symm) (by omega); unfold cmpN; rw [if_neg (by omega), if_neg (by omega)]), ht⟩) (fun q h => by cases h) dX2_compare_40
      · refine lv_iconst (v := -1) hx hb dX2_compare_35 (by decide) ?_
        refine lv_goto (tgt := 40) hx hb dX2_compare_36 rfl ?_
        exact W.iret hx hb hr (fun tZ ht hW => ⟨_, rfl, (by unfold cmpN; rw [if_pos (dg_less (i := t - 1) (by rw [Nat.sub_add_cancel (by omega)]; exact hq) (by omega))]), ht⟩) (fun q h => by cases h) dX2_compare_40

/-! constructors -/
set_option maxHeartbeats 4000000 in
set_option maxRecDepth 100000 in
theorem n_X2_init_9 (l : Launch) (D : va_G) (cI cO : ClassId) (h : Nat) (sz : Nat) : Met l yX2_init (.code yX2_init cX2_init 2 none :: sgT) ({ frames := 1, cells := 1, slots := 9, locals := 20 }) (sgNc D cI cO [.ref h, .int (nI 9)] [(h, .inr (2, [.null]))] sz) (va_Qv (fun _ : Nat => True) (fun uZ t => va_P D vwCl [(h, .inr (2, [.ref uZ])), (uZ, .inl (cI, 9, .inl (fun _ => 0)))] t.heap ∧ va_D (va_A [(h, .inr (2, [.null]))] sz) [(h, .inr (2, [.ref uZ])), (uZ, .inl (cI, 9, .inl (fun _ => 0)))]) (va_A [(h, .inr (2, [.null]))] sz)) 1 9 (va_A [(h, .inr (2, [.null]))] sz) := by
  refine Met.ofW (cc := cX2_init) (maxL := 2) (ret := none) (by decide) rfl ?_
  intro pZ eZ sZ mZ argsZ belowZ methZ cZ s₁ BZ hml hv
  obtain ⟨rfl, hsz, hP, hK, hD0⟩ := hv
  have hx := BZ.exec
  have hb := BZ.bytes
  have hr := BZ.returns
  have hts : ∀ wZ ∈ sgT, wZ.before ([.ref h, .int (nI 9)] : List Value).toArray sZ = true := fun wZ h => atoms_spec (ws := (.code yX2_init cX2_init 2 none :: sgT)) BZ.pre wZ (List.mem_cons_of_mem _ h)
  have hown : sZ.vm.findClass RX2 = some mZ.cls := findClass_of_methodNamed BZ.named
  have hlocks := BZ.notSynchronized
  have hin : methZ.name = "<init>" := (name_of_methodNamed BZ.named BZ.method).1
  subst hsz
  have hD := hD0.self (sz := sZ.heap.size)
  generalize hAe : va_A [(h, .inr (2, [.null]))] sZ.heap.size = A at hD ⊢
  have hA : ∀ q : Nat, sZ.heap.size ≤ q → A q := fun q h => by rw [← hAe]; exact Or.inr h
  have hS : va_S A sZ.heap sZ.heap [] := va_S.rf
  have hl := lv_entry ([.ref h, .int (nI 9)]) (n := 2) (Nat.le_of_ble_eq_true rfl)
  rw [lg_entry_eq]
  generalize (lg_sl ([.ref h, .int (nI 9)]) ++ List.replicate (2 - (lg_sl ([.ref h, .int (nI 9)])).length) Slot.unset).toArray = ls at hl ⊢
  have hl : lv_has ls 2 [(0, .ref h), (1, .int (nI 9))] := hl
  have hP : va_P D vwCl [(h, .inr (2, [.null]))] sZ.heap := hP
  refine lv_aload_n hx hb dX2_init_0 rfl (lv_at hl 0 rfl) ?_
  refine W.objInit hx hb hown (hts _ ml_X2_1) (hts _ im_JO_init) (hts _ mcJO_init) rfl (by rw [hml]; exact hl.1) rfl dX2_init_1 (Nat.le_of_ble_eq_true rfl) (Nat.le_of_ble_eq_true rfl) ?_
  refine W.eq (g2 := F0 mZ 4 ls []) rfl ?_
  refine lv_aload_n hx hb dX2_init_4 rfl (lv_at hl 0 rfl) ?_
  refine lv_iload_n hx hb dX2_init_5 rfl (lv_at hl 1 rfl) ?_
  refine sg_newa hx hb (hts _ ac_I) hK hP hD hS hA (Nat.le_of_ble_eq_true rfl) (Nat.le_of_ble_eq_true rfl) (Nat.le_of_ble_eq_true rfl) dX2_init_6 (fun q6 H hP hD hS => ?_)
  have hP : va_P D vwCl [(h, .inr (2, [.null])), (q6, .inl (cI, 9, .inl (fun _ => 0)))] H := hP
  have hD : va_D A [(h, .inr (2, [.null])), (q6, .inl (cI, 9, .inl (fun _ => 0)))] := hD
  refine va_putF (D := D) (ci := 2) (v := .ref q6) (ty := .array .int) (C := RX2) (T := TX2) (N := 1) hx hb hts hinX2 tyX2 tyX2_ok nmX2 hown hK.1 hP hD hS 0 rfl rfl 0 (by decide) (hts _ fl_X2_7) (fun _ h9 => h9) rfl hin rfl (by decide +kernel) rfl rfl (Nat.le_of_ble_eq_true rfl) dX2_init_8 (fun H locs hP hD hS => ?_)
  have hP : va_P D vwCl [(h, .inr (2, [.ref q6])), (q6, .inl (cI, 9, .inl (fun _ => 0)))] H := hP
  have hD : va_D A [(h, .inr (2, [.ref q6])), (q6, .inl (cI, 9, .inl (fun _ => 0)))] := hD
  refine W.widen (k := 1) (n := 9) (Nat.le_of_ble_eq_true rfl) (Nat.le_of_ble_eq_true rfl) ?_
  exact W.vret hx hb hr (fun tZ ht hW => ⟨⟨q6, rfl, trivial, by show va_P D vwCl _ tZ.heap ∧ va_D A _; rw [ht]; exact ⟨hP, hD⟩⟩, hS.F ht⟩) hS.2.2 dX2_init_11
set_option maxHeartbeats 4000000 in
set_option maxRecDepth 100000 in
theorem n_X2_init_18 (l : Launch) (D : va_G) (cI cO : ClassId) (h : Nat) (sz : Nat) : Met l yX2_init (.code yX2_init cX2_init 2 none :: sgT) ({ frames := 1, cells := 1, slots := 18, locals := 20 }) (sgNc D cI cO [.ref h, .int (nI 18)] [(h, .inr (2, [.null]))] sz) (va_Qv (fun _ : Nat => True) (fun uZ t => va_P D vwCl [(h, .inr (2, [.ref uZ])), (uZ, .inl (cI, 18, .inl (fun _ => 0)))] t.heap ∧ va_D (va_A [(h, .inr (2, [.null]))] sz) [(h, .inr (2, [.ref uZ])), (uZ, .inl (cI, 18, .inl (fun _ => 0)))]) (va_A [(h, .inr (2, [.null]))] sz)) 1 18 (va_A [(h, .inr (2, [.null]))] sz) := by
  refine Met.ofW (cc := cX2_init) (maxL := 2) (ret := none) (by decide) rfl ?_
  intro pZ eZ sZ mZ argsZ belowZ methZ cZ s₁ BZ hml hv
  obtain ⟨rfl, hsz, hP, hK, hD0⟩ := hv
  have hx := BZ.exec
  have hb := BZ.bytes
  have hr := BZ.returns
  have hts : ∀ wZ ∈ sgT, wZ.before ([.ref h, .int (nI 18)] : List Value).toArray sZ = true := fun wZ h => atoms_spec (ws := (.code yX2_init cX2_init 2 none :: sgT)) BZ.pre wZ (List.mem_cons_of_mem _ h)
  have hown : sZ.vm.findClass RX2 = some mZ.cls := findClass_of_methodNamed BZ.named
  have hlocks := BZ.notSynchronized
  have hin : methZ.name = "<init>" := (name_of_methodNamed BZ.named BZ.method).1
  subst hsz
  have hD := hD0.self (sz := sZ.heap.size)
  generalize hAe : va_A [(h, .inr (2, [.null]))] sZ.heap.size = A at hD ⊢
  have hA : ∀ q : Nat, sZ.heap.size ≤ q → A q := fun q h => by rw [← hAe]; exact Or.inr h
  have hS : va_S A sZ.heap sZ.heap [] := va_S.rf
  have hl := lv_entry ([.ref h, .int (nI 18)]) (n := 2) (Nat.le_of_ble_eq_true rfl)
  rw [lg_entry_eq]
  generalize (lg_sl ([.ref h, .int (nI 18)]) ++ List.replicate (2 - (lg_sl ([.ref h, .int (nI 18)])).length) Slot.unset).toArray = ls at hl ⊢
  have hl : lv_has ls 2 [(0, .ref h), (1, .int (nI 18))] := hl
  have hP : va_P D vwCl [(h, .inr (2, [.null]))] sZ.heap := hP
  refine lv_aload_n hx hb dX2_init_0 rfl (lv_at hl 0 rfl) ?_
  refine W.objInit hx hb hown (hts _ ml_X2_1) (hts _ im_JO_init) (hts _ mcJO_init) rfl (by rw [hml]; exact hl.1) rfl dX2_init_1 (Nat.le_of_ble_eq_true rfl) (Nat.le_of_ble_eq_true rfl) ?_
  refine W.eq (g2 := F0 mZ 4 ls []) rfl ?_
  refine lv_aload_n hx hb dX2_init_4 rfl (lv_at hl 0 rfl) ?_
  refine lv_iload_n hx hb dX2_init_5 rfl (lv_at hl 1 rfl) ?_
  refine sg_newa hx hb (hts _ ac_I) hK hP hD hS hA (Nat.le_of_ble_eq_true rfl) (Nat.le_of_ble_eq_true rfl) (Nat.le_of_ble_eq_true rfl) dX2_init_6 (fun q6 H hP hD hS => ?_)
  have hP : va_P D vwCl [(h, .inr (2, [.null])), (q6, .inl (cI, 18, .inl (fun _ => 0)))] H := hP
  have hD : va_D A [(h, .inr (2, [.null])), (q6, .inl (cI, 18, .inl (fun _ => 0)))] := hD
  refine va_putF (D := D) (ci := 2) (v := .ref q6) (ty := .array .int) (C := RX2) (T := TX2) (N := 1) hx hb hts hinX2 tyX2 tyX2_ok nmX2 hown hK.1 hP hD hS 0 rfl rfl 0 (by decide) (hts _ fl_X2_7) (fun _ h9 => h9) rfl hin rfl (by decide +kernel) rfl rfl (Nat.le_of_ble_eq_true rfl) dX2_init_8 (fun H locs hP hD hS => ?_)
  have hP : va_P D vwCl [(h, .inr (2, [.ref q6])), (q6, .inl (cI, 18, .inl (fun _ => 0)))] H := hP
  have hD : va_D A [(h, .inr (2, [.ref q6])), (q6, .inl (cI, 18, .inl (fun _ => 0)))] := hD
  refine W.widen (k := 1) (n := 18) (Nat.le_of_ble_eq_true rfl) (Nat.le_of_ble_eq_true rfl) ?_
  exact W.vret hx hb hr (fun tZ ht hW => ⟨⟨q6, rfl, trivial, by show va_P D vwCl _ tZ.heap ∧ va_D A _; rw [ht]; exact ⟨hP, hD⟩⟩, hS.F ht⟩) hS.2.2 dX2_init_11
set_option maxHeartbeats 4000000 in
set_option maxRecDepth 100000 in
theorem c_X0_init (l : Launch) (D : va_G) (cI cO : ClassId) (h : Nat) (sz : Nat) : Met l yX0_init (.code yX0_init cX0_init 1 none :: sgT) ({ frames := 1, cells := 0, slots := 0, locals := 20 }) (sgNc D cI cO [.ref h] [(h, .inr (0, [.long (lN 0), .long (lN 0)]))] sz) (va_Qv (fun _ : Unit => True) (fun uZ t => va_P D vwCl [(h, .inr (0, [.long (lN 1), .long (lN 6)]))] t.heap ∧ va_D (va_A [(h, .inr (0, [.long (lN 0), .long (lN 0)]))] sz) [(h, .inr (0, [.long (lN 1), .long (lN 6)]))]) (va_A [(h, .inr (0, [.long (lN 0), .long (lN 0)]))] sz)) 0 0 (va_A [(h, .inr (0, [.long (lN 0), .long (lN 0)]))] sz) := by
  refine Met.ofW (cc := cX0_init) (maxL := 1) (ret := none) (by decide) rfl ?_
  intro pZ eZ sZ mZ argsZ belowZ methZ cZ s₁ BZ hml hv
  obtain ⟨rfl, hsz, hP, hK, hD0⟩ := hv
  have hx := BZ.exec
  have hb := BZ.bytes
  have hr := BZ.returns
  have hts : ∀ wZ ∈ sgT, wZ.before ([.ref h] : List Value).toArray sZ = true := fun wZ h => atoms_spec (ws := (.code yX0_init cX0_init 1 none :: sgT)) BZ.pre wZ (List.mem_cons_of_mem _ h)
  have hown : sZ.vm.findClass RX0 = some mZ.cls := findClass_of_methodNamed BZ.named
  have hlocks := BZ.notSynchronized
  have hin : methZ.name = "<init>" := (name_of_methodNamed BZ.named BZ.method).1
  subst hsz
  have hD := hD0.self (sz := sZ.heap.size)
  generalize hAe : va_A [(h, .inr (0, [.long (lN 0), .long (lN 0)]))] sZ.heap.size = A at hD ⊢
  have hA : ∀ q : Nat, sZ.heap.size ≤ q → A q := fun q h => by rw [← hAe]; exact Or.inr h
  have hS : va_S A sZ.heap sZ.heap [] := va_S.rf
  have hl := lv_entry ([.ref h]) (n := 1) (Nat.le_of_ble_eq_true rfl)
  rw [lg_entry_eq]
  generalize (lg_sl ([.ref h]) ++ List.replicate (1 - (lg_sl ([.ref h])).length) Slot.unset).toArray = ls at hl ⊢
  have hl : lv_has ls 1 [(0, .ref h)] := hl
  have hP : va_P D vwCl [(h, .inr (0, [.long (lN 0), .long (lN 0)]))] sZ.heap := hP
  refine lv_aload_n hx hb dX0_init_0 rfl (lv_at hl 0 rfl) ?_
  refine W.objInit hx hb hown (hts _ ml_X0_3) (hts _ im_JO_init) (hts _ mcJO_init) rfl (by rw [hml]; exact hl.1) rfl dX0_init_1 (Nat.le_of_ble_eq_true rfl) (Nat.le_of_ble_eq_true rfl) ?_
  refine W.eq (g2 := F0 mZ 4 ls []) rfl ?_
  refine lv_aload_n hx hb dX0_init_4 rfl (lv_at hl 0 rfl) ?_
  refine lv_lconst (v := lN 1) hx hb dX0_init_5 (by decide) ?_
  refine va_put (D := D) (ci := 0) (v := .long (lN 1)) (ty := .long) (C := RX0) (T := TX0) (N := 2) hx hb hts hinX0 tyX0 tyX0_ok nmX0 hown hK.1 hP hD hS 0 rfl rfl 0 (by decide) (hts _ fl_X0_9) (fun _ h9 => h9) rfl (by decide +kernel) rfl rfl (Nat.le_of_ble_eq_true rfl) dX0_init_6 (fun H locs hP hD hS => ?_)
  have hP : va_P D vwCl [(h, .inr (0, [.long (lN 1), .long (lN 0)]))] H := hP
  have hD : va_D A [(h, .inr (0, [.long (lN 1), .long (lN 0)]))] := hD
  refine lv_aload_n hx hb dX0_init_9 rfl (lv_at hl 0 rfl) ?_
  refine lv_ldc2 (v := lN 6) hx hb hown (hts _ kl_X0_15) dX0_init_10 ?_
  refine va_put (D := D) (ci := 0) (v := .long (lN 6)) (ty := .long) (C := RX0) (T := TX0) (N := 2) hx hb hts hinX0 tyX0 tyX0_ok nmX0 hown hK.1 hP hD hS 0 rfl rfl 1 (by decide) (hts _ fl_X0_17) (fun _ h9 => h9) rfl (by decide +kernel) rfl rfl (Nat.le_of_ble_eq_true rfl) dX0_init_13 (fun H locs hP hD hS => ?_)
  have hP : va_P D vwCl [(h, .inr (0, [.long (lN 1), .long (lN 6)]))] H := hP
  have hD : va_D A [(h, .inr (0, [.long (lN 1), .long (lN 6)]))] := hD
  refine W.widen (k := 0) (n := 0) (Nat.le_of_ble_eq_true rfl) (Nat.le_of_ble_eq_true rfl) ?_
  exact W.vret hx hb hr (fun tZ ht hW => ⟨⟨(), rfl, trivial, by show va_P D vwCl _ tZ.heap ∧ va_D A _; rw [ht]; exact ⟨hP, hD⟩⟩, hS.F ht⟩) hS.2.2 dX0_init_16
set_option maxHeartbeats 4000000 in
set_option maxRecDepth 100000 in
theorem c_X1_init (l : Launch) (D : va_G) (cI cO : ClassId) (h : Nat) (sz : Nat) : Met l yX1_init (.code yX1_init cX1_init 1 none :: sgT) ({ frames := 1, cells := 3, slots := 399, locals := 20 }) (sgNc D cI cO [.ref h] [(h, .inr (1, [.null, .null, .null, .int (nI 0)]))] sz) (va_Qv (fun _ : Nat × Nat × Nat => True) (fun uZ t => va_P D vwCl [(h, .inr (1, [.ref uZ.1, .ref uZ.2.1, .ref uZ.2.2, .int (nI 3)])), (uZ.1, .inl (cI, 7, .inl (fun _ => 0))), (uZ.2.1, .inl (cI, 49, .inl (fun _ => 0))), (uZ.2.2, .inl (cI, 343, .inl (fun _ => 0)))] t.heap ∧ va_D (va_A [(h, .inr (1, [.null, .null, .null, .int (nI 0)]))] sz) [(h, .inr (1, [.ref uZ.1, .ref uZ.2.1, .ref uZ.2.2, .int (nI 3)])), (uZ.1, .inl (cI, 7, .inl (fun _ => 0))), (uZ.2.1, .inl (cI, 49, .inl (fun _ => 0))), (uZ.2.2, .inl (cI, 343, .inl (fun _ => 0)))]) (va_A [(h, .inr (1, [.null, .null, .null, .int (nI 0)]))] sz)) 3 399 (va_A [(h, .inr (1, [.null, .null, .null, .int (nI 0)]))] sz) := by
  refine Met.ofW (cc := cX1_init) (maxL := 1) (ret := none) (by decide) rfl ?_
  intro pZ eZ sZ mZ argsZ belowZ methZ cZ s₁ BZ hml hv
  obtain ⟨rfl, hsz, hP, hK, hD0⟩ := hv
  have hx := BZ.exec
  have hb := BZ.bytes
  have hr := BZ.returns
  have hts : ∀ wZ ∈ sgT, wZ.before ([.ref h] : List Value).toArray sZ = true := fun wZ h => atoms_spec (ws := (.code yX1_init cX1_init 1 none :: sgT)) BZ.pre wZ (List.mem_cons_of_mem _ h)
  have hown : sZ.vm.findClass RX1 = some mZ.cls := findClass_of_methodNamed BZ.named
  have hlocks := BZ.notSynchronized
  have hin : methZ.name = "<init>" := (name_of_methodNamed BZ.named BZ.method).1
  subst hsz
  have hD := hD0.self (sz := sZ.heap.size)
  generalize hAe : va_A [(h, .inr (1, [.null, .null, .null, .int (nI 0)]))] sZ.heap.size = A at hD ⊢
  have hA : ∀ q : Nat, sZ.heap.size ≤ q → A q := fun q h => by rw [← hAe]; exact Or.inr h
  have hS : va_S A sZ.heap sZ.heap [] := va_S.rf
  have hl := lv_entry ([.ref h]) (n := 1) (Nat.le_of_ble_eq_true rfl)
  rw [lg_entry_eq]
  generalize (lg_sl ([.ref h]) ++ List.replicate (1 - (lg_sl ([.ref h])).length) Slot.unset).toArray = ls at hl ⊢
  have hl : lv_has ls 1 [(0, .ref h)] := hl
  have hP : va_P D vwCl [(h, .inr (1, [.null, .null, .null, .int (nI 0)]))] sZ.heap := hP
  refine lv_aload_n hx hb dX1_init_0 rfl (lv_at hl 0 rfl) ?_
  refine W.objInit hx hb hown (hts _ ml_X1_3) (hts _ im_JO_init) (hts _ mcJO_init) rfl (by rw [hml]; exact hl.1) rfl dX1_init_1 (Nat.le_of_ble_eq_true rfl) (Nat.le_of_ble_eq_true rfl) ?_
  refine W.eq (g2 := F0 mZ 4 ls []) rfl ?_
  refine lv_aload_n hx hb dX1_init_4 rfl (lv_at hl 0 rfl) ?_
  refine lv_bipush (v := nI 7) hx hb dX1_init_5 (by decide) ?_
  refine sg_newa hx hb (hts _ ac_I) hK hP hD hS hA (Nat.le_of_ble_eq_true rfl) (Nat.le_of_ble_eq_true rfl) (Nat.le_of_ble_eq_true rfl) dX1_init_7 (fun q7 H hP hD hS => ?_)
  have hP : va_P D vwCl [(h, .inr (1, [.null, .null, .null, .int (nI 0)])), (q7, .inl (cI, 7, .inl (fun _ => 0)))] H := hP
  have hD : va_D A [(h, .inr (1, [.null, .null, .null, .int (nI 0)])), (q7, .inl (cI, 7, .inl (fun _ => 0)))] := hD
  refine va_putF (D := D) (ci := 1) (v := .ref q7) (ty := .array .int) (C := RX1) (T := TX1) (N := 4) hx hb hts hinX1 tyX1 tyX1_ok nmX1 hown hK.1 hP hD hS 0 rfl rfl 0 (by decide) (hts _ fl_X1_9) (fun _ h9 => h9) rfl hin rfl (by decide +kernel) rfl rfl (Nat.le_of_ble_eq_true rfl) dX1_init_9 (fun H locs hP hD hS => ?_)
  have hP : va_P D vwCl [(h, .inr (1, [.ref q7, .null, .null, .int (nI 0)])), (q7, .inl (cI, 7, .inl (fun _ => 0)))] H := hP
  have hD : va_D A [(h, .inr (1, [.ref q7, .null, .null, .int (nI 0)])), (q7, .inl (cI, 7, .inl (fun _ => 0)))] := hD
  refine lv_aload_n hx hb dX1_init_12 rfl (lv_at hl 0 rfl) ?_
  refine lv_bipush (v := nI 49) hx hb dX1_init_13 (by decide) ?_
  refine sg_newa hx hb (hts _ ac_I) hK hP hD hS hA (Nat.le_of_ble_eq_true rfl) (Nat.le_of_ble_eq_true rfl) (Nat.le_of_ble_eq_true rfl) dX1_init_15 (fun q15 H hP hD hS => ?_)
  have hP : va_P D vwCl [(h, .inr (1, [.ref q7, .null, .null, .int (nI 0)])), (q7, .inl (cI, 7, .inl (fun _ => 0))), (q15, .inl (cI, 49, .inl (fun _ => 0)))] H := hP
  have hD : va_D A [(h, .inr (1, [.ref q7, .null, .null, .int (nI 0)])), (q7, .inl (cI, 7, .inl (fun _ => 0))), (q15, .inl (cI, 49, .inl (fun _ => 0)))] := hD
  refine va_putF (D := D) (ci := 1) (v := .ref q15) (ty := .array .int) (C := RX1) (T := TX1) (N := 4) hx hb hts hinX1 tyX1 tyX1_ok nmX1 hown hK.1 hP hD hS 0 rfl rfl 1 (by decide) (hts _ fl_X1_15) (fun _ h9 => h9) rfl hin rfl (by decide +kernel) rfl rfl (Nat.le_of_ble_eq_true rfl) dX1_init_17 (fun H locs hP hD hS => ?_)
  have hP : va_P D vwCl [(h, .inr (1, [.ref q7, .ref q15, .null, .int (nI 0)])), (q7, .inl (cI, 7, .inl (fun _ => 0))), (q15, .inl (cI, 49, .inl (fun _ => 0)))] H := hP
  have hD : va_D A [(h, .inr (1, [.ref q7, .ref q15, .null, .int (nI 0)])), (q7, .inl (cI, 7, .inl (fun _ => 0))), (q15, .inl (cI, 49, .inl (fun _ => 0)))] := hD
  refine lv_aload_n hx hb dX1_init_20 rfl (lv_at hl 0 rfl) ?_
  refine lv_sipush (v := nI 343) hx hb dX1_init_21 (by decide) ?_
  refine sg_newa hx hb (hts _ ac_I) hK hP hD hS hA (Nat.le_of_ble_eq_true rfl) (Nat.le_of_ble_eq_true rfl) (Nat.le_of_ble_eq_true rfl) dX1_init_24 (fun q24 H hP hD hS => ?_)
  have hP : va_P D vwCl [(h, .inr (1, [.ref q7, .ref q15, .null, .int (nI 0)])), (q7, .inl (cI, 7, .inl (fun _ => 0))), (q15, .inl (cI, 49, .inl (fun _ => 0))), (q24, .inl (cI, 343, .inl (fun _ => 0)))] H := hP
  have hD : va_D A [(h, .inr (1, [.ref q7, .ref q15, .null, .int (nI 0)])), (q7, .inl (cI, 7, .inl (fun _ => 0))), (q15, .inl (cI, 49, .inl (fun _ => 0))), (q24, .inl (cI, 343, .inl (fun _ => 0)))] := hD
  refine va_putF (D := D) (ci := 1) (v := .ref q24) (ty := .array .int) (C := RX1) (T := TX1) (N := 4) hx hb hts hinX1 tyX1 tyX1_ok nmX1 hown hK.1 hP hD hS 0 rfl rfl 2 (by decide) (hts _ fl_X1_18) (fun _ h9 => h9) rfl hin rfl (by decide +kernel) rfl rfl (Nat.le_of_ble_eq_true rfl) dX1_init_26 (fun H locs hP hD hS => ?_)
  have hP : va_P D vwCl [(h, .inr (1, [.ref q7, .ref q15, .ref q24, .int (nI 0)])), (q7, .inl (cI, 7, .inl (fun _ => 0))), (q15, .inl (cI, 49, .inl (fun _ => 0))), (q24, .inl (cI, 343, .inl (fun _ => 0)))] H := hP
  have hD : va_D A [(h, .inr (1, [.ref q7, .ref q15, .ref q24, .int (nI 0)])), (q7, .inl (cI, 7, .inl (fun _ => 0))), (q15, .inl (cI, 49, .inl (fun _ => 0))), (q24, .inl (cI, 343, .inl (fun _ => 0)))] := hD
  refine lv_aload_n hx hb dX1_init_29 rfl (lv_at hl 0 rfl) ?_
  refine lv_iconst (v := nI 3) hx hb dX1_init_30 (by decide) ?_
  refine va_put (D := D) (ci := 1) (v := .int (nI 3)) (ty := .int) (C := RX1) (T := TX1) (N := 4) hx hb hts hinX1 tyX1 tyX1_ok nmX1 hown hK.1 hP hD hS 0 rfl rfl 3 (by decide) (hts _ fl_X1_21) (fun _ h9 => h9) rfl (by decide +kernel) rfl rfl (Nat.le_of_ble_eq_true rfl) dX1_init_31 (fun H locs hP hD hS => ?_)
  have hP : va_P D vwCl [(h, .inr (1, [.ref q7, .ref q15, .ref q24, .int (nI 3)])), (q7, .inl (cI, 7, .inl (fun _ => 0))), (q15, .inl (cI, 49, .inl (fun _ => 0))), (q24, .inl (cI, 343, .inl (fun _ => 0)))] H := hP
  have hD : va_D A [(h, .inr (1, [.ref q7, .ref q15, .ref q24, .int (nI 3)])), (q7, .inl (cI, 7, .inl (fun _ => 0))), (q15, .inl (cI, 49, .inl (fun _ => 0))), (q24, .inl (cI, 343, .inl (fun _ => 0)))] := hD
  refine W.widen (k := 3) (n := 399) (Nat.le_of_ble_eq_true rfl) (Nat.le_of_ble_eq_true rfl) ?_
  exact W.vret hx hb hr (fun tZ ht hW => ⟨⟨(q7, q15, q24), rfl, trivial, by show va_P D vwCl _ tZ.heap ∧ va_D A _; rw [ht]; exact ⟨hP, hD⟩⟩, hS.F ht⟩) hS.2.2 dX1_init_34
set_option maxHeartbeats 4000000 in
set_option maxRecDepth 100000 in
theorem c_X3_init (l : Launch) (D : va_G) (cI cO : ClassId) (h : Nat) (sz : Nat) : Met l yX3_init (.code yX3_init cX3_init 1 none :: sgT) ({ frames := 2, cells := 4, slots := 20, locals := 41 }) (sgNc D cI cO [.ref h] [(h, .inr (3, [.null, .null]))] sz) (va_Qv (fun _ : Nat × Nat × Nat × Nat => True) (fun uZ t => va_P D vwCl [(h, .inr (3, [.ref uZ.1, .ref uZ.2.2.1])), (uZ.1, .inr (2, [.ref uZ.2.1])), (uZ.2.1, .inl (cI, 9, .inl (dF 1))), (uZ.2.2.1, .inr (2, [.ref uZ.2.2.2])), (uZ.2.2.2, .inl (cI, 9, .inl (dF 1)))] t.heap ∧ va_D (va_A [(h, .inr (3, [.null, .null]))] sz) [(h, .inr (3, [.ref uZ.1, .ref uZ.2.2.1])), (uZ.1, .inr (2, [.ref uZ.2.1])), (uZ.2.1, .inl (cI, 9, .inl (dF 1))), (uZ.2.2.1, .inr (2, [.ref uZ.2.2.2])), (uZ.2.2.2, .inl (cI, 9, .inl (dF 1)))]) (va_A [(h, .inr (3, [.null, .null]))] sz)) 4 20 (va_A [(h, .inr (3, [.null, .null]))] sz) := by
  refine Met.ofW (cc := cX3_init) (maxL := 1) (ret := none) (by decide) rfl ?_
  intro pZ eZ sZ mZ argsZ belowZ methZ cZ s₁ BZ hml hv
  obtain ⟨rfl, hsz, hP, hK, hD0⟩ := hv
  have hx := BZ.exec
  have hb := BZ.bytes
  have hr := BZ.returns
  have hts : ∀ wZ ∈ sgT, wZ.before ([.ref h] : List Value).toArray sZ = true := fun wZ h => atoms_spec (ws := (.code yX3_init cX3_init 1 none :: sgT)) BZ.pre wZ (List.mem_cons_of_mem _ h)
  have hown : sZ.vm.findClass RX3 = some mZ.cls := findClass_of_methodNamed BZ.named
  have hlocks := BZ.notSynchronized
  have hin : methZ.name = "<init>" := (name_of_methodNamed BZ.named BZ.method).1
  subst hsz
  have hD := hD0.self (sz := sZ.heap.size)
  generalize hAe : va_A [(h, .inr (3, [.null, .null]))] sZ.heap.size = A at hD ⊢
  have hA : ∀ q : Nat, sZ.heap.size ≤ q → A q := fun q h => by rw [← hAe]; exact Or.inr h
  have hS : va_S A sZ.heap sZ.heap [] := va_S.rf
  have hl := lv_entry ([.ref h]) (n := 1) (Nat.le_of_ble_eq_true rfl)
  rw [lg_entry_eq]
  generalize (lg_sl ([.ref h]) ++ List.replicate (1 - (lg_sl ([.ref h])).length) Slot.unset).toArray = ls at hl ⊢
  have hl : lv_has ls 1 [(0, .ref h)] := hl
  have hP : va_P D vwCl [(h, .inr (3, [.null, .null]))] sZ.heap := hP
  refine lv_aload_n hx hb dX3_init_0 rfl (lv_at hl 0 rfl) ?_
  refine W.objInit hx hb hown (hts _ ml_X3_1) (hts _ im_JO_init) (hts _ mcJO_init) rfl (by rw [hml]; exact hl.1) rfl dX3_init_1 (Nat.le_of_ble_eq_true rfl) (Nat.le_of_ble_eq_true rfl) ?_
  refine W.eq (g2 := F0 mZ 4 ls []) rfl ?_
  refine lv_aload_n hx hb dX3_init_4 rfl (lv_at hl 0 rfl) ?_
  refine va_new (D := D) (ci := 2) (fs := [.null]) (C := RX2) (T := TX2) (N := 1) hx hb hts hinX2 tyX2 tyX2_ok hown (hts _ cl_X3_7) (hts _ it_X2) (hts _ in_X2) hK.1 hP hD hS hA rfl (fun j hj => by rcases (show j = 0 by omega) with rfl <;> rfl) (Nat.le_of_ble_eq_true rfl) (Nat.le_of_ble_eq_true rfl) dX3_init_5 (fun q5 H hP hD hS => ?_)
  have hP : va_P D vwCl [(h, .inr (3, [.null, .null])), (q5, .inr (2, [.null]))] H := hP
  have hD : va_D A [(h, .inr (3, [.null, .null])), (q5, .inr (2, [.null]))] := hD
  refine lv_dup hx hb dX3_init_8 rfl ?_
  refine lv_bipush (v := nI 9) hx hb dX3_init_9 (by decide) ?_
  refine sg_callN (wr := [(h, .inr (3, [.null, .null]))]) (va_runI (As := [.int (nI 9)]) (rest := [.ref q5, .ref h]) ⟨hx, hb, hml, hown, hts⟩ (n_X2_init_9 l D cI cO q5 H.size) ⟨sg_cB 1 hts mcX2_init ml_X3_11 in_X2 rfl rfl (by decide +kernel) ⟨Nat.le_of_ble_eq_true rfl, Nat.le_of_ble_eq_true rfl⟩, rfl, hts _ im_X2_init⟩ (sg_nS hK hP hD [1] (by decide) rfl) rfl rfl hl.1 rfl (lv_room (Nat.le_of_ble_eq_true rfl)) dX3_init_11 ⟨Nat.le_of_ble_eq_true rfl, Nat.le_of_ble_eq_true rfl⟩) hP hD hS hA [1] [0] rfl rfl (by decide) (by decide) (fun u11 H locs _ hP hD hS => ?_)
  have hP : va_P D vwCl [(h, .inr (3, [.null, .null])), (q5, .inr (2, [.ref u11])), (u11, .inl (cI, 9, .inl (fun _ => 0)))] H := hP
  have hD : va_D A [(h, .inr (3, [.null, .null])), (q5, .inr (2, [.ref u11])), (u11, .inl (cI, 9, .inl (fun _ => 0)))] := hD
  refine va_putF (D := D) (ci := 3) (v := .ref q5) (ty := .object "SmoothedGrams$Natural") (C := RX3) (T := TX3) (N := 2) hx hb hts hinX3 tyX3 tyX3_ok nmX3 hown hK.1 hP hD hS 0 rfl rfl 0 (by decide) (hts _ fl_X3_14) (fun _ h9 => h9) rfl hin rfl (by decide +kernel) rfl rfl (Nat.le_of_ble_eq_true rfl) dX3_init_14 (fun H locs hP hD hS => ?_)
  have hP : va_P D vwCl [(h, .inr (3, [.ref q5, .null])), (q5, .inr (2, [.ref u11])), (u11, .inl (cI, 9, .inl (fun _ => 0)))] H := hP
  have hD : va_D A [(h, .inr (3, [.ref q5, .null])), (q5, .inr (2, [.ref u11])), (u11, .inl (cI, 9, .inl (fun _ => 0)))] := hD
  refine lv_aload_n hx hb dX3_init_17 rfl (lv_at hl 0 rfl) ?_
  refine va_new (D := D) (ci := 2) (fs := [.null]) (C := RX2) (T := TX2) (N := 1) hx hb hts hinX2 tyX2 tyX2_ok hown (hts _ cl_X3_7) (hts _ it_X2) (hts _ in_X2) hK.1 hP hD hS hA rfl (fun j hj => by rcases (show j = 0 by omega) with rfl <;> rfl) (Nat.le_of_ble_eq_true rfl) (Nat.le_of_ble_eq_true rfl) dX3_init_18 (fun q18 H hP hD hS => ?_)
  have hP : va_P D vwCl [(h, .inr (3, [.ref q5, .null])), (q5, .inr (2, [.ref u11])), (u11, .inl (cI, 9, .inl (fun _ => 0))), (q18, .inr (2, [.null]))] H := hP
  have hD : va_D A [(h, .inr (3, [.ref q5, .null])), (q5, .inr (2, [.ref u11])), (u11, .inl (cI, 9, .inl (fun _ => 0))), (q18, .inr (2, [.null]))] := hD
  refine lv_dup hx hb dX3_init_21 rfl ?_
  refine lv_bipush (v := nI 9) hx hb dX3_init_22 (by decide) ?_
  refine sg_callN (wr := [(h, .inr (3, [.ref q5, .null])), (q5, .inr (2, [.ref u11])), (u11, .inl (cI, 9, .inl (fun _ => 0)))]) (va_runI (As := [.int (nI 9)]) (rest := [.ref q18, .ref h]) ⟨hx, hb, hml, hown, hts⟩ (n_X2_init_9 l D cI cO q18 H.size) ⟨sg_cB 1 hts mcX2_init ml_X3_11 in_X2 rfl rfl (by decide +kernel) ⟨Nat.le_of_ble_eq_true rfl, Nat.le_of_ble_eq_true rfl⟩, rfl, hts _ im_X2_init⟩ (sg_nS hK hP hD [3] (by decide) rfl) rfl rfl hl.1 rfl (lv_room (Nat.le_of_ble_eq_true rfl)) dX3_init_24 ⟨Nat.le_of_ble_eq_true rfl, Nat.le_of_ble_eq_true rfl⟩) hP hD hS hA [3] [0, 1, 2] rfl rfl (by decide) (by decide) (fun u24 H locs _ hP hD hS => ?_)
  have hP : va_P D vwCl [(h, .inr (3, [.ref q5, .null])), (q5, .inr (2, [.ref u11])), (u11, .inl (cI, 9, .inl (fun _ => 0))), (q18, .inr (2, [.ref u24])), (u24, .inl (cI, 9, .inl (fun _ => 0)))] H := hP
  have hD : va_D A [(h, .inr (3, [.ref q5, .null])), (q5, .inr (2, [.ref u11])), (u11, .inl (cI, 9, .inl (fun _ => 0))), (q18, .inr (2, [.ref u24])), (u24, .inl (cI, 9, .inl (fun _ => 0)))] := hD
  refine va_putF (D := D) (ci := 3) (v := .ref q18) (ty := .object "SmoothedGrams$Natural") (C := RX3) (T := TX3) (N := 2) hx hb hts hinX3 tyX3 tyX3_ok nmX3 hown hK.1 hP hD hS 0 rfl rfl 1 (by decide) (hts _ fl_X3_18) (fun _ h9 => h9) rfl hin rfl (by decide +kernel) rfl rfl (Nat.le_of_ble_eq_true rfl) dX3_init_27 (fun H locs hP hD hS => ?_)
  have hP : va_P D vwCl [(h, .inr (3, [.ref q5, .ref q18])), (q5, .inr (2, [.ref u11])), (u11, .inl (cI, 9, .inl (fun _ => 0))), (q18, .inr (2, [.ref u24])), (u24, .inl (cI, 9, .inl (fun _ => 0)))] H := hP
  have hD : va_D A [(h, .inr (3, [.ref q5, .ref q18])), (q5, .inr (2, [.ref u11])), (u11, .inl (cI, 9, .inl (fun _ => 0))), (q18, .inr (2, [.ref u24])), (u24, .inl (cI, 9, .inl (fun _ => 0)))] := hD
  refine lv_aload_n hx hb dX3_init_30 rfl (lv_at hl 0 rfl) ?_
  refine sg_callWv (fun _ => [(h, .inr (3, [.ref q5, .ref q18])), (q5, .inr (2, [.ref u11])), (u11, .inl (cI, 9, .inl (dF 1))), (q18, .inr (2, [.ref u24])), (u24, .inl (cI, 9, .inl (dF 1)))]) [(true, 0), (true, 1), (true, 2), (true, 3), (true, 4)] (va_runV (As := []) (rest := []) (C := RX3) ⟨hx, hb, hml, hown, hts⟩ (c_X3_setOne l D cI cO h q5 u11 q18 u24 (fun _ => 0) (fun _ => 0)) ⟨(sg_cB 0 hts mcX3_setOne ml_X3_21 in_X3 rfl rfl (by decide +kernel) ⟨Nat.le_of_ble_eq_true rfl, Nat.le_of_ble_eq_true rfl⟩), hts _ im_X3_setOne, hts _ se_X3_setOne⟩ (sg_wV (q0 := 0) hK hP hD [0, 1, 2, 3, 4] (by decide) rfl rfl rfl rfl) rfl rfl hl.1 rfl (lv_room (Nat.le_of_ble_eq_true rfl)) dX3_init_31 ⟨Nat.le_of_ble_eq_true rfl, Nat.le_of_ble_eq_true rfl⟩) hP hD hS [0, 1, 2, 3, 4] rfl (fun _ => rfl) (by decide) (fun _ => rfl) (fun u31 H locs hw31 hP hD hS => ?_)
  refine W.widen (k := 4) (n := 20) (Nat.le_of_ble_eq_true rfl) (Nat.le_of_ble_eq_true rfl) ?_
  exact W.vret hx hb hr (fun tZ ht hW => ⟨⟨(q5, u11, q18, u24), rfl, trivial, by show va_P D vwCl _ tZ.heap ∧ va_D A _; rw [ht]; exact ⟨hP, hD⟩⟩, hS.F ht⟩) hS.2.2 dX3_init_34
set_option maxHeartbeats 4000000 in
set_option maxRecDepth 100000 in
theorem c_X4_init (l : Launch) (D : va_G) (cI cO : ClassId) (h : Nat) (sz : Nat) : Met l yX4_init (.code yX4_init cX4_init 1 none :: sgT) ({ frames := 1, cells := 11, slots := 90, locals := 20 }) (sgNc D cI cO [.ref h] [(h, .inr (4, [.null, .null, .int (nI 0)]))] sz) (va_Qv (fun _ : (Nat → Nat) × Nat × Nat => True) (fun uZ t => va_P D vwCl (rw9 uZ.1 cI (fun _ _ => 0) ++ [(h, .inr (4, [.ref uZ.2.1, .ref uZ.2.2, .int (nI 0)])), (uZ.2.1, .inl (cO, 9, .inr (.inr (.inr (.inr (fun j => some (uZ.1 j))))))), (uZ.2.2, .inl (cI, 9, .inl (fun _ => 0)))]) t.heap ∧ va_D (va_A [(h, .inr (4, [.null, .null, .int (nI 0)]))] sz) (rw9 uZ.1 cI (fun _ _ => 0) ++ [(h, .inr (4, [.ref uZ.2.1, .ref uZ.2.2, .int (nI 0)])), (uZ.2.1, .inl (cO, 9, .inr (.inr (.inr (.inr (fun j => some (uZ.1 j))))))), (uZ.2.2, .inl (cI, 9, .inl (fun _ => 0)))])) (va_A [(h, .inr (4, [.null, .null, .int (nI 0)]))] sz)) 11 90 (va_A [(h, .inr (4, [.null, .null, .int (nI 0)]))] sz) := by
  refine Met.ofW (cc := cX4_init) (maxL := 1) (ret := none) (by decide) rfl ?_
  intro pZ eZ sZ mZ argsZ belowZ methZ cZ s₁ BZ hml hv
  obtain ⟨rfl, hsz, hP, hK, hD0⟩ := hv
  have hx := BZ.exec
  have hb := BZ.bytes
  have hr := BZ.returns
  have hts : ∀ wZ ∈ sgT, wZ.before ([.ref h] : List Value).toArray sZ = true := fun wZ h => atoms_spec (ws := (.code yX4_init cX4_init 1 none :: sgT)) BZ.pre wZ (List.mem_cons_of_mem _ h)
  have hown : sZ.vm.findClass RX4 = some mZ.cls := findClass_of_methodNamed BZ.named
  have hlocks := BZ.notSynchronized
  have hin : methZ.name = "<init>" := (name_of_methodNamed BZ.named BZ.method).1
  subst hsz
  have hD := hD0.self (sz := sZ.heap.size)
  generalize hAe : va_A [(h, .inr (4, [.null, .null, .int (nI 0)]))] sZ.heap.size = A at hD ⊢
  have hA : ∀ q : Nat, sZ.heap.size ≤ q → A q := fun q h => by rw [← hAe]; exact Or.inr h
  have hS : va_S A sZ.heap sZ.heap [] := va_S.rf
  have hl := lv_entry ([.ref h]) (n := 1) (Nat.le_of_ble_eq_true rfl)
  rw [lg_entry_eq]
  generalize (lg_sl ([.ref h]) ++ List.replicate (1 - (lg_sl ([.ref h])).length) Slot.unset).toArray = ls at hl ⊢
  have hl : lv_has ls 1 [(0, .ref h)] := hl
  have hP : va_P D vwCl [(h, .inr (4, [.null, .null, .int (nI 0)]))] sZ.heap := hP
  refine lv_aload_n hx hb dX4_init_0 rfl (lv_at hl 0 rfl) ?_
  refine W.objInit hx hb hown (hts _ ml_X4_3) (hts _ im_JO_init) (hts _ mcJO_init) rfl (by rw [hml]; exact hl.1) rfl dX4_init_1 (Nat.le_of_ble_eq_true rfl) (Nat.le_of_ble_eq_true rfl) ?_
  refine W.eq (g2 := F0 mZ 4 ls []) rfl ?_
  refine lv_aload_n hx hb dX4_init_4 rfl (lv_at hl 0 rfl) ?_
  refine lv_bipush (v := nI 9) hx hb dX4_init_5 (by decide) ?_
  refine lv_bipush (v := nI 8) hx hb dX4_init_7 (by decide) ?_
  refine sg_multi hx hb hown (hts _ cl_X4_9) hK hP hD hS hA (Nat.le_of_ble_eq_true rfl) (Nat.le_of_ble_eq_true rfl) dX4_init_9 (fun q9 H locs hP hD hS => ?_)
  have hP : va_P D vwCl (rw9 (fun j => q9 + 1 + j) cI (fun _ _ => 0) ++ [(h, .inr (4, [.null, .null, .int (nI 0)])), (q9, .inl (cO, 9, .inr (.inr (.inr (.inr (fun j => some (q9 + 1 + j)))))))]) H := hP
  have hD : va_D A (rw9 (fun j => q9 + 1 + j) cI (fun _ _ => 0) ++ [(h, .inr (4, [.null, .null, .int (nI 0)])), (q9, .inl (cO, 9, .inr (.inr (.inr (.inr (fun j => some (q9 + 1 + j)))))))]) := hD
  refine va_putF (D := D) (ci := 4) (v := .ref q9) (ty := .array (.array .int)) (C := RX4) (T := TX4) (N := 3) hx hb hts hinX4 tyX4 tyX4_ok nmX4 hown hK.1 hP hD hS 9 rfl rfl 0 (by decide) (hts _ fl_X4_11) (fun _ h9 => h9) rfl hin rfl (by decide +kernel) rfl rfl (Nat.le_of_ble_eq_true rfl) dX4_init_13 (fun H locs hP hD hS => ?_)
  have hP : va_P D vwCl (rw9 (fun j => q9 + 1 + j) cI (fun _ _ => 0) ++ [(h, .inr (4, [.ref q9, .null, .int (nI 0)])), (q9, .inl (cO, 9, .inr (.inr (.inr (.inr (fun j => some (q9 + 1 + j)))))))]) H := hP
  have hD : va_D A (rw9 (fun j => q9 + 1 + j) cI (fun _ _ => 0) ++ [(h, .inr (4, [.ref q9, .null, .int (nI 0)])), (q9, .inl (cO, 9, .inr (.inr (.inr (.inr (fun j => some (q9 + 1 + j)))))))]) := hD
  refine lv_aload_n hx hb dX4_init_16 rfl (lv_at hl 0 rfl) ?_
  refine lv_bipush (v := nI 9) hx hb dX4_init_17 (by decide) ?_
  refine sg_newa hx hb (hts _ ac_I) hK hP hD hS hA (Nat.le_of_ble_eq_true rfl) (Nat.le_of_ble_eq_true rfl) (Nat.le_of_ble_eq_true rfl) dX4_init_19 (fun q19 H hP hD hS => ?_)
  have hP : va_P D vwCl (rw9 (fun j => q9 + 1 + j) cI (fun _ _ => 0) ++ [(h, .inr (4, [.ref q9, .null, .int (nI 0)])), (q9, .inl (cO, 9, .inr (.inr (.inr (.inr (fun j => some (q9 + 1 + j))))))), (q19, .inl (cI, 9, .inl (fun _ => 0)))]) H := hP
  have hD : va_D A (rw9 (fun j => q9 + 1 + j) cI (fun _ _ => 0) ++ [(h, .inr (4, [.ref q9, .null, .int (nI 0)])), (q9, .inl (cO, 9, .inr (.inr (.inr (.inr (fun j => some (q9 + 1 + j))))))), (q19, .inl (cI, 9, .inl (fun _ => 0)))]) := hD
  refine va_putF (D := D) (ci := 4) (v := .ref q19) (ty := .array .int) (C := RX4) (T := TX4) (N := 3) hx hb hts hinX4 tyX4 tyX4_ok nmX4 hown hK.1 hP hD hS 9 rfl rfl 1 (by decide) (hts _ fl_X4_16) (fun _ h9 => h9) rfl hin rfl (by decide +kernel) rfl rfl (Nat.le_of_ble_eq_true rfl) dX4_init_21 (fun H locs hP hD hS => ?_)
  have hP : va_P D vwCl (rw9 (fun j => q9 + 1 + j) cI (fun _ _ => 0) ++ [(h, .inr (4, [.ref q9, .ref q19, .int (nI 0)])), (q9, .inl (cO, 9, .inr (.inr (.inr (.inr (fun j => some (q9 + 1 + j))))))), (q19, .inl (cI, 9, .inl (fun _ => 0)))]) H := hP
  have hD : va_D A (rw9 (fun j => q9 + 1 + j) cI (fun _ _ => 0) ++ [(h, .inr (4, [.ref q9, .ref q19, .int (nI 0)])), (q9, .inl (cO, 9, .inr (.inr (.inr (.inr (fun j => some (q9 + 1 + j))))))), (q19, .inl (cI, 9, .inl (fun _ => 0)))]) := hD
  refine lv_aload_n hx hb dX4_init_24 rfl (lv_at hl 0 rfl) ?_
  refine lv_iconst (v := nI 0) hx hb dX4_init_25 (by decide) ?_
  refine va_put (D := D) (ci := 4) (v := .int (nI 0)) (ty := .int) (C := RX4) (T := TX4) (N := 3) hx hb hts hinX4 tyX4 tyX4_ok nmX4 hown hK.1 hP hD hS 9 rfl rfl 2 (by decide) (hts _ fl_X4_20) (fun _ h9 => h9) rfl (by decide +kernel) rfl rfl (Nat.le_of_ble_eq_true rfl) dX4_init_26 (fun H locs hP hD hS => ?_)
  have hP : va_P D vwCl (rw9 (fun j => q9 + 1 + j) cI (fun _ _ => 0) ++ [(h, .inr (4, [.ref q9, .ref q19, .int (nI 0)])), (q9, .inl (cO, 9, .inr (.inr (.inr (.inr (fun j => some (q9 + 1 + j))))))), (q19, .inl (cI, 9, .inl (fun _ => 0)))]) H := hP
  have hD : va_D A (rw9 (fun j => q9 + 1 + j) cI (fun _ _ => 0) ++ [(h, .inr (4, [.ref q9, .ref q19, .int (nI 0)])), (q9, .inl (cO, 9, .inr (.inr (.inr (.inr (fun j => some (q9 + 1 + j))))))), (q19, .inl (cI, 9, .inl (fun _ => 0)))]) := hD
  refine W.widen (k := 11) (n := 90) (Nat.le_of_ble_eq_true rfl) (Nat.le_of_ble_eq_true rfl) ?_
  exact W.vret hx hb hr (fun tZ ht hW => ⟨⟨(fun j => q9 + 1 + j, q9, q19), rfl, trivial, by show va_P D vwCl _ tZ.heap ∧ va_D A _; rw [ht]; exact ⟨hP, hD⟩⟩, hS.F ht⟩) hS.2.2 dX4_init_29

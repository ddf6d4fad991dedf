/-! SmoothedGrams, on -/
set_option maxHeartbeats 4000000 in
set_option maxRecDepth 100000 in
theorem c_count_bad (l : Launch) (D : va_G) (cI cO : ClassId) (z : Nat) (h : Nat) (q0 : Nat) (qe : Nat) (hc : Nat) (s : Nat) (s2 : Nat) (xa : Nat) (xb : Nat) (k : Int32) (x : Int32) (y : Int32) (v : Int32) (hn : ¬ ((1 ≤ k.toInt ∧ k.toInt ≤ 3) ∧ (k.toInt < 2 ∨ (0 ≤ y.toInt ∧ y.toInt < 7)) ∧ (k.toInt < 3 ∨ (0 ≤ x.toInt ∧ x.toInt < 7)) ∧ 0 ≤ v.toInt ∧ v.toInt < 7)) : Met l yX5_count (.code yX5_count cX5_count 5 (some .int) :: sgT) ({ frames := 3, cells := 0, slots := 0, locals := 68 }) (sgPc D cI cO [.ref z, .int k, .int x, .int y, .int v] [(z, .inr (5, [.ref h, .ref q0, .ref qe, .ref hc, .ref s, .ref s2, .ref xa, .ref xb]))]) (vp_Si (fun r => r = nI 0)) 0 0 (fun _ => False) := by
  refine Met.ofW (cc := cX5_count) (maxL := 5) (ret := (some .int)) (by decide) rfl ?_
  intro pZ eZ sZ mZ argsZ belowZ methZ cZ s₁ BZ hml hv
  obtain ⟨rfl, hP, hK⟩ := hv
  have hx := BZ.exec
  have hb := BZ.bytes
  have hr := BZ.returns
  have hts : ∀ wZ ∈ sgT, wZ.before ([.ref z, .int k, .int x, .int y, .int v] : List Value).toArray sZ = true := fun wZ h => atoms_spec (ws := (.code yX5_count cX5_count 5 (some .int) :: sgT)) BZ.pre wZ (List.mem_cons_of_mem _ h)
  have hown : sZ.vm.findClass RX5 = some mZ.cls := findClass_of_methodNamed BZ.named
  have hlocks := BZ.notSynchronized
  have hl := lv_entry ([.ref z, .int k, .int x, .int y, .int v]) (n := 5) (Nat.le_of_ble_eq_true rfl)
  rw [lg_entry_eq]
  generalize (lg_sl ([.ref z, .int k, .int x, .int y, .int v]) ++ List.replicate (5 - (lg_sl ([.ref z, .int k, .int x, .int y, .int v])).length) Slot.unset).toArray = ls at hl ⊢
  have hl : lv_has ls 5 [(0, .ref z), (1, .int k), (2, .int x), (3, .int y), (4, .int v)] := hl
  refine lv_iload_n hx hb dX5_count_0 rfl (lv_at hl 1 rfl) ?_
  refine lv_iload_n hx hb dX5_count_1 rfl (lv_at hl 2 rfl) ?_
  refine lv_iload_n hx hb dX5_count_2 rfl (lv_at hl 3 rfl) ?_
  refine sg_callRi (va_runS (As := [.int k, .int x, .int y]) (rest := []) ⟨hx, hb, hml, hown, hts⟩ (c_X5_isContext l D cI cO k x y) ⟨(sg_cB 3 hts mcX5_isContext ml_X5_86 in_X5 rfl rfl (by decide +kernel) ⟨Nat.le_of_ble_eq_true rfl, Nat.le_of_ble_eq_true rfl⟩), hts _ st_X5_isContext⟩ (sg_pS hK hP [] rfl) rfl rfl hl.1 rfl (lv_room (Nat.le_of_ble_eq_true rfl)) dX5_count_3 ⟨Nat.zero_le _, Nat.zero_le _⟩) ?_
  refine ci_beq (P := ((1 ≤ k.toInt ∧ k.toInt ≤ 3) ∧ (k.toInt < 2 ∨ (0 ≤ y.toInt ∧ y.toInt < 7)) ∧ (k.toInt < 3 ∨ (0 ≤ x.toInt ∧ x.toInt < 7)))) (tgt := 17) hx hb dX5_count_6 rfl (fun h6 => ?_) (fun h6 => ?_)
  · refine lv_iconst (v := nI 0) hx hb dX5_count_17 (by decide) ?_
    exact W.iret hx hb hr (fun tZ ht hW => ⟨_, rfl, rfl, ht⟩) (fun q h => by cases h) dX5_count_18
  · refine lv_iload hx hb dX5_count_9 (lv_at hl 4 rfl) ?_
    refine sg_callRi (va_runS (As := [.int v]) (rest := []) ⟨hx, hb, hml, hown, hts⟩ (c_X5_isSymbol l D cI cO v) ⟨(sg_cB 1 hts mcX5_isSymbol ml_X5_90 in_X5 rfl rfl (by decide +kernel) ⟨Nat.le_of_ble_eq_true rfl, Nat.le_of_ble_eq_true rfl⟩), hts _ st_X5_isSymbol⟩ (sg_pS hK hP [] rfl) rfl rfl hl.1 rfl (lv_room (Nat.le_of_ble_eq_true rfl)) dX5_count_11 ⟨Nat.zero_le _, Nat.zero_le _⟩) ?_
    refine ci_bne (P := (0 ≤ v.toInt ∧ v.toInt < 7)) (tgt := 19) hx hb dX5_count_14 rfl (fun h14 => by exfalso; omega) (fun h14 => ?_)
    refine lv_iconst (v := nI 0) hx hb dX5_count_17 (by decide) ?_
    exact W.iret hx hb hr (fun tZ ht hW => ⟨_, rfl, rfl, ht⟩) (fun q h => by cases h) dX5_count_18
set_option maxHeartbeats 4000000 in
set_option maxRecDepth 100000 in
theorem c_X5_count (l : Launch) (D : va_G) (cI cO : ClassId) (z : Nat) (h : Nat) (q0 : Nat) (qe : Nat) (hc : Nat) (s : Nat) (s2 : Nat) (xa : Nat) (xb : Nat) (q1 : Nat) (q2 : Nat) (q3 : Nat) (ord : Nat) (f1 : Nat → Int32) (f2 : Nat → Int32) (f3 : Nat → Int32) (rw : Nat → Nat → Nat → Nat → Nat) (k : Nat) (x : Int32) (y : Int32) (a : Nat) (b : Nat) (v : Nat) (hH : sgHold rw f1 f2 f3) (hF : sgFlat rw) (hB : sgBd rw) (ho : 1 ≤ ord ∧ ord ≤ 3) (hk : 1 ≤ k ∧ k ≤ 3) (hy : 2 ≤ k → y = nI b) (hz : 3 ≤ k → x = nI a) (ha : a < 7) (hbb : b < 7) (hv : v < 7) : Met l yX5_count (.code yX5_count cX5_count 5 (some .int) :: sgT) ({ frames := 3, cells := 0, slots := 0, locals := 68 }) (sgPc D cI cO [.ref z, .int (nI k), .int x, .int y, .int (nI v)] [(z, .inr (5, [.ref h, .ref q0, .ref qe, .ref hc, .ref s, .ref s2, .ref xa, .ref xb])), (q0, .inr (1, [.ref q1, .ref q2, .ref q3, .int (nI ord)])), (q1, .inl (cI, 7, .inl f1)), (q2, .inl (cI, 49, .inl f2)), (q3, .inl (cI, 343, .inl f3))]) (vp_Si (fun r => r = nI (sgC rw ord k a b v))) 0 0 (fun _ => False) := by
  refine Met.ofW (cc := cX5_count) (maxL := 5) (ret := (some .int)) (by decide) rfl ?_
  intro pZ eZ sZ mZ argsZ belowZ methZ cZ s₁ BZ hml hv
  obtain ⟨rfl, hP, hK⟩ := hv
  have hx := BZ.exec
  have hb := BZ.bytes
  have hr := BZ.returns
  have hts : ∀ wZ ∈ sgT, wZ.before ([.ref z, .int (nI k), .int x, .int y, .int (nI v)] : List Value).toArray sZ = true := fun wZ h => atoms_spec (ws := (.code yX5_count cX5_count 5 (some .int) :: sgT)) BZ.pre wZ (List.mem_cons_of_mem _ h)
  have hown : sZ.vm.findClass RX5 = some mZ.cls := findClass_of_methodNamed BZ.named
  have hlocks := BZ.notSynchronized
  have hl := lv_entry ([.ref z, .int (nI k), .int x, .int y, .int (nI v)]) (n := 5) (Nat.le_of_ble_eq_true rfl)
  rw [lg_entry_eq]
  generalize (lg_sl ([.ref z, .int (nI k), .int x, .int y, .int (nI v)]) ++ List.replicate (5 - (lg_sl ([.ref z, .int (nI k), .int x, .int y, .int (nI v)])).length) Slot.unset).toArray = ls at hl ⊢
  have hl : lv_has ls 5 [(0, .ref z), (1, .int (nI k)), (2, .int x), (3, .int y), (4, .int (nI v))] := hl
  have hkI := sg_n (n := k) (by omega)
  have hyI : 2 ≤ k → y.toInt = (b : Int) := fun h => by rw [hy h]; exact sg_n (by omega)
  have hzI : 3 ≤ k → x.toInt = (a : Int) := fun h => by rw [hz h]; exact sg_n (by omega)
  have hvI := sg_n (n := v) (by omega)
  refine lv_iload_n hx hb dX5_count_0 rfl (lv_at hl 1 rfl) ?_
  refine lv_iload_n hx hb dX5_count_1 rfl (lv_at hl 2 rfl) ?_
  refine lv_iload_n hx hb dX5_count_2 rfl (lv_at hl 3 rfl) ?_
  refine sg_callRi (va_runS (As := [.int (nI k), .int x, .int y]) (rest := []) ⟨hx, hb, hml, hown, hts⟩ (c_X5_isContext l D cI cO (nI k) x y) ⟨(sg_cB 3 hts mcX5_isContext ml_X5_86 in_X5 rfl rfl (by decide +kernel) ⟨Nat.le_of_ble_eq_true rfl, Nat.le_of_ble_eq_true rfl⟩), hts _ st_X5_isContext⟩ (sg_pS hK hP [] rfl) rfl rfl hl.1 rfl (lv_room (Nat.le_of_ble_eq_true rfl)) dX5_count_3 ⟨Nat.zero_le _, Nat.zero_le _⟩) ?_
  refine ci_beq (P := ((1 ≤ (nI k).toInt ∧ (nI k).toInt ≤ 3) ∧ ((nI k).toInt < 2 ∨ (0 ≤ y.toInt ∧ y.toInt < 7)) ∧ ((nI k).toInt < 3 ∨ (0 ≤ x.toInt ∧ x.toInt < 7)))) (tgt := 17) hx hb dX5_count_6 rfl (fun h6 => by exfalso; omega) (fun h6 => ?_)
  refine lv_iload hx hb dX5_count_9 (lv_at hl 4 rfl) ?_
  refine sg_callRi (va_runS (As := [.int (nI v)]) (rest := []) ⟨hx, hb, hml, hown, hts⟩ (c_X5_isSymbol l D cI cO (nI v)) ⟨(sg_cB 1 hts mcX5_isSymbol ml_X5_90 in_X5 rfl rfl (by decide +kernel) ⟨Nat.le_of_ble_eq_true rfl, Nat.le_of_ble_eq_true rfl⟩), hts _ st_X5_isSymbol⟩ (sg_pS hK hP [] rfl) rfl rfl hl.1 rfl (lv_room (Nat.le_of_ble_eq_true rfl)) dX5_count_11 ⟨Nat.zero_le _, Nat.zero_le _⟩) ?_
  refine ci_bne (P := (0 ≤ (nI v).toInt ∧ (nI v).toInt < 7)) (tgt := 19) hx hb dX5_count_14 rfl (fun h14 => ?_) (fun h14 => by exfalso; omega)
  refine lv_aload_n hx hb dX5_count_19 rfl (lv_at hl 0 rfl) ?_
  refine va_get (D := D) (ci := 5) (v := .ref q0) (C := RX5) (T := TX5) (N := 8) hx hb hts hinX5 hown hK.1 hP 0 rfl rfl 1 (by decide) (hts _ fl_X5_19) (fun _ h9 => h9) rfl dX5_count_20 ?_
  refine lv_iload_n hx hb dX5_count_23 rfl (lv_at hl 1 rfl) ?_
  refine lv_iload_n hx hb dX5_count_24 rfl (lv_at hl 1 rfl) ?_
  refine lv_iload_n hx hb dX5_count_25 rfl (lv_at hl 2 rfl) ?_
  refine lv_iload_n hx hb dX5_count_26 rfl (lv_at hl 3 rfl) ?_
  refine sg_callRi (va_runS (As := [.int (nI k), .int x, .int y]) (rest := [.int (nI k), .ref q0]) ⟨hx, hb, hml, hown, hts⟩ (c_X5_contextOf l D cI cO k x y a b (by omega) hy hz) ⟨(sg_cB 3 hts mcX5_contextOf ml_X5_93 in_X5 rfl rfl (by decide +kernel) ⟨Nat.le_of_ble_eq_true rfl, Nat.le_of_ble_eq_true rfl⟩), hts _ st_X5_contextOf⟩ (sg_pS hK hP [] rfl) rfl rfl hl.1 rfl (lv_room (Nat.le_of_ble_eq_true rfl)) dX5_count_27 ⟨Nat.zero_le _, Nat.zero_le _⟩) ?_
  refine lv_bipush (v := nI 7) hx hb dX5_count_30 (by decide) ?_
  refine n_imul hx hb dX5_count_32 ?_
  refine lv_iload hx hb dX5_count_33 (lv_at hl 4 rfl) ?_
  refine n_iadd hx hb dX5_count_35 ?_
  refine sg_callRi (va_runV (As := [.int (nI k), .int (nI (((sgCx k a b) * 7) + v))]) (rest := []) (C := RX1) ⟨hx, hb, hml, hown, hts⟩ (c_X1_ofRow l D cI cO q0 q1 q2 q3 ord f1 f2 f3 rw k (((sgCx k a b) * 7) + v) hH hB (by omega) (by omega) (sgCx_lt hk.1 hk.2 ha hbb (by omega))) ⟨(sg_cB 2 hts mcX1_ofRow ml_X5_97 in_X1 rfl rfl (by decide +kernel) ⟨Nat.le_of_ble_eq_true rfl, Nat.le_of_ble_eq_true rfl⟩), hts _ im_X1_ofRow, hts _ se_X1_ofRow⟩ (sg_pV (q0 := 1) hK hP [1, 2, 3, 4] rfl rfl rfl rfl) rfl rfl hl.1 rfl (lv_room (Nat.le_of_ble_eq_true rfl)) dX5_count_36 ⟨Nat.zero_le _, Nat.zero_le _⟩) ?_
  refine sw_i (y := nI (sgC rw ord k a b v)) (congrArg nI (sgCg_cx hF ord hk.1 hk.2 ho.2 ha hbb (by omega))) ?_
  exact W.iret hx hb hr (fun tZ ht hW => ⟨_, rfl, rfl, ht⟩) (fun q h => by cases h) dX5_count_39
set_option maxHeartbeats 4000000 in
set_option maxRecDepth 100000 in
theorem c_total_bad (l : Launch) (D : va_G) (cI cO : ClassId) (z : Nat) (h : Nat) (q0 : Nat) (qe : Nat) (hc : Nat) (s : Nat) (s2 : Nat) (xa : Nat) (xb : Nat) (k : Int32) (x : Int32) (y : Int32) (hn : ¬ ((1 ≤ k.toInt ∧ k.toInt ≤ 3) ∧ (k.toInt < 2 ∨ (0 ≤ y.toInt ∧ y.toInt < 7)) ∧ (k.toInt < 3 ∨ (0 ≤ x.toInt ∧ x.toInt < 7)))) : Met l yX5_total (.code yX5_total cX5_total 4 (some .int) :: sgT) ({ frames := 4, cells := 0, slots := 0, locals := 92 }) (sgPc D cI cO [.ref z, .int k, .int x, .int y] [(z, .inr (5, [.ref h, .ref q0, .ref qe, .ref hc, .ref s, .ref s2, .ref xa, .ref xb]))]) (vp_Si (fun r => r = nI 0)) 0 0 (fun _ => False) := by
  refine Met.ofW (cc := cX5_total) (maxL := 4) (ret := (some .int)) (by decide) rfl ?_
  intro pZ eZ sZ mZ argsZ belowZ methZ cZ s₁ BZ hml hv
  obtain ⟨rfl, hP, hK⟩ := hv
  have hx := BZ.exec
  have hb := BZ.bytes
  have hr := BZ.returns
  have hts : ∀ wZ ∈ sgT, wZ.before ([.ref z, .int k, .int x, .int y] : List Value).toArray sZ = true := fun wZ h => atoms_spec (ws := (.code yX5_total cX5_total 4 (some .int) :: sgT)) BZ.pre wZ (List.mem_cons_of_mem _ h)
  have hown : sZ.vm.findClass RX5 = some mZ.cls := findClass_of_methodNamed BZ.named
  have hlocks := BZ.notSynchronized
  have hl := lv_entry ([.ref z, .int k, .int x, .int y]) (n := 4) (Nat.le_of_ble_eq_true rfl)
  rw [lg_entry_eq]
  generalize (lg_sl ([.ref z, .int k, .int x, .int y]) ++ List.replicate (4 - (lg_sl ([.ref z, .int k, .int x, .int y])).length) Slot.unset).toArray = ls at hl ⊢
  have hl : lv_has ls 4 [(0, .ref z), (1, .int k), (2, .int x), (3, .int y)] := hl
  refine lv_iload_n hx hb dX5_total_0 rfl (lv_at hl 1 rfl) ?_
  refine lv_iload_n hx hb dX5_total_1 rfl (lv_at hl 2 rfl) ?_
  refine lv_iload_n hx hb dX5_total_2 rfl (lv_at hl 3 rfl) ?_
  refine sg_callRi (va_runS (As := [.int k, .int x, .int y]) (rest := []) ⟨hx, hb, hml, hown, hts⟩ (c_X5_isContext l D cI cO k x y) ⟨(sg_cB 3 hts mcX5_isContext ml_X5_86 in_X5 rfl rfl (by decide +kernel) ⟨Nat.le_of_ble_eq_true rfl, Nat.le_of_ble_eq_true rfl⟩), hts _ st_X5_isContext⟩ (sg_pS hK hP [] rfl) rfl rfl hl.1 rfl (lv_room (Nat.le_of_ble_eq_true rfl)) dX5_total_3 ⟨Nat.zero_le _, Nat.zero_le _⟩) ?_
  refine ci_beq (P := ((1 ≤ k.toInt ∧ k.toInt ≤ 3) ∧ (k.toInt < 2 ∨ (0 ≤ y.toInt ∧ y.toInt < 7)) ∧ (k.toInt < 3 ∨ (0 ≤ x.toInt ∧ x.toInt < 7)))) (tgt := 26) hx hb dX5_total_6 rfl (fun h6 => ?_) (fun h6 => by exfalso; omega)
  refine lv_iconst (v := nI 0) hx hb dX5_total_26 (by decide) ?_
  exact W.iret hx hb hr (fun tZ ht hW => ⟨_, rfl, rfl, ht⟩) (fun q h => by cases h) dX5_total_27
set_option maxHeartbeats 4000000 in
set_option maxRecDepth 100000 in
theorem c_X5_total (l : Launch) (D : va_G) (cI cO : ClassId) (z : Nat) (h : Nat) (q0 : Nat) (qe : Nat) (hc : Nat) (s : Nat) (s2 : Nat) (xa : Nat) (xb : Nat) (q1 : Nat) (q2 : Nat) (q3 : Nat) (ord : Nat) (f1 : Nat → Int32) (f2 : Nat → Int32) (f3 : Nat → Int32) (rw : Nat → Nat → Nat → Nat → Nat) (k : Nat) (x : Int32) (y : Int32) (a : Nat) (b : Nat) (hH : sgHold rw f1 f2 f3) (hF : sgFlat rw) (hB : sgBd rw) (ho : 1 ≤ ord ∧ ord ≤ 3) (hk : 1 ≤ k ∧ k ≤ 3) (hy : 2 ≤ k → y = nI b) (hz : 3 ≤ k → x = nI a) (ha : a < 7) (hbb : b < 7) : Met l yX5_total (.code yX5_total cX5_total 4 (some .int) :: sgT) ({ frames := 4, cells := 0, slots := 0, locals := 92 }) (sgPc D cI cO [.ref z, .int (nI k), .int x, .int y] [(z, .inr (5, [.ref h, .ref q0, .ref qe, .ref hc, .ref s, .ref s2, .ref xa, .ref xb])), (q0, .inr (1, [.ref q1, .ref q2, .ref q3, .int (nI ord)])), (q1, .inl (cI, 7, .inl f1)), (q2, .inl (cI, 49, .inl f2)), (q3, .inl (cI, 343, .inl f3))]) (vp_Si (fun r => r = nI (sgTot rw ord k a b 6))) 0 0 (fun _ => False) := by
  refine Met.ofW (cc := cX5_total) (maxL := 4) (ret := (some .int)) (by decide) rfl ?_
  intro pZ eZ sZ mZ argsZ belowZ methZ cZ s₁ BZ hml hv
  obtain ⟨rfl, hP, hK⟩ := hv
  have hx := BZ.exec
  have hb := BZ.bytes
  have hr := BZ.returns
  have hts : ∀ wZ ∈ sgT, wZ.before ([.ref z, .int (nI k), .int x, .int y] : List Value).toArray sZ = true := fun wZ h => atoms_spec (ws := (.code yX5_total cX5_total 4 (some .int) :: sgT)) BZ.pre wZ (List.mem_cons_of_mem _ h)
  have hown : sZ.vm.findClass RX5 = some mZ.cls := findClass_of_methodNamed BZ.named
  have hlocks := BZ.notSynchronized
  have hl := lv_entry ([.ref z, .int (nI k), .int x, .int y]) (n := 4) (Nat.le_of_ble_eq_true rfl)
  rw [lg_entry_eq]
  generalize (lg_sl ([.ref z, .int (nI k), .int x, .int y]) ++ List.replicate (4 - (lg_sl ([.ref z, .int (nI k), .int x, .int y])).length) Slot.unset).toArray = ls at hl ⊢
  have hl : lv_has ls 4 [(0, .ref z), (1, .int (nI k)), (2, .int x), (3, .int y)] := hl
  have hkI := sg_n (n := k) (by omega)
  have hyI : 2 ≤ k → y.toInt = (b : Int) := fun h => by rw [hy h]; exact sg_n (by omega)
  have hzI : 3 ≤ k → x.toInt = (a : Int) := fun h => by rw [hz h]; exact sg_n (by omega)
  refine lv_iload_n hx hb dX5_total_0 rfl (lv_at hl 1 rfl) ?_
  refine lv_iload_n hx hb dX5_total_1 rfl (lv_at hl 2 rfl) ?_
  refine lv_iload_n hx hb dX5_total_2 rfl (lv_at hl 3 rfl) ?_
  refine sg_callRi (va_runS (As := [.int (nI k), .int x, .int y]) (rest := []) ⟨hx, hb, hml, hown, hts⟩ (c_X5_isContext l D cI cO (nI k) x y) ⟨(sg_cB 3 hts mcX5_isContext ml_X5_86 in_X5 rfl rfl (by decide +kernel) ⟨Nat.le_of_ble_eq_true rfl, Nat.le_of_ble_eq_true rfl⟩), hts _ st_X5_isContext⟩ (sg_pS hK hP [] rfl) rfl rfl hl.1 rfl (lv_room (Nat.le_of_ble_eq_true rfl)) dX5_total_3 ⟨Nat.zero_le _, Nat.zero_le _⟩) ?_
  refine ci_beq (P := ((1 ≤ (nI k).toInt ∧ (nI k).toInt ≤ 3) ∧ ((nI k).toInt < 2 ∨ (0 ≤ y.toInt ∧ y.toInt < 7)) ∧ ((nI k).toInt < 3 ∨ (0 ≤ x.toInt ∧ x.toInt < 7)))) (tgt := 26) hx hb dX5_total_6 rfl (fun h6 => by exfalso; omega) (fun h6 => ?_)
  refine lv_aload_n hx hb dX5_total_9 rfl (lv_at hl 0 rfl) ?_
  refine va_get (D := D) (ci := 5) (v := .ref q0) (C := RX5) (T := TX5) (N := 8) hx hb hts hinX5 hown hK.1 hP 0 rfl rfl 1 (by decide) (hts _ fl_X5_19) (fun _ h9 => h9) rfl dX5_total_10 ?_
  refine lv_iload_n hx hb dX5_total_13 rfl (lv_at hl 1 rfl) ?_
  refine lv_iload_n hx hb dX5_total_14 rfl (lv_at hl 1 rfl) ?_
  refine lv_iload_n hx hb dX5_total_15 rfl (lv_at hl 2 rfl) ?_
  refine lv_iload_n hx hb dX5_total_16 rfl (lv_at hl 3 rfl) ?_
  refine sg_callRi (va_runS (As := [.int (nI k), .int x, .int y]) (rest := [.int (nI k), .ref q0]) ⟨hx, hb, hml, hown, hts⟩ (c_X5_contextOf l D cI cO k x y a b (by omega) hy hz) ⟨(sg_cB 3 hts mcX5_contextOf ml_X5_93 in_X5 rfl rfl (by decide +kernel) ⟨Nat.le_of_ble_eq_true rfl, Nat.le_of_ble_eq_true rfl⟩), hts _ st_X5_contextOf⟩ (sg_pS hK hP [] rfl) rfl rfl hl.1 rfl (lv_room (Nat.le_of_ble_eq_true rfl)) dX5_total_17 ⟨Nat.zero_le _, Nat.zero_le _⟩) ?_
  refine sg_callRi (va_runV (As := [.int (nI k), .int (nI (sgCx k a b))]) (rest := []) (C := RX1) ⟨hx, hb, hml, hown, hts⟩ (c_X1_sumBehind l D cI cO q0 q1 q2 q3 ord f1 f2 f3 rw k a b hH hF hB (by omega) (by omega) (by omega) (by omega)) ⟨(sg_cB 2 hts mcX1_sumBehind ml_X5_101 in_X1 rfl rfl (by decide +kernel) ⟨Nat.le_of_ble_eq_true rfl, Nat.le_of_ble_eq_true rfl⟩), hts _ im_X1_sumBehind, hts _ se_X1_sumBehind⟩ (sg_pV (q0 := 1) hK hP [1, 2, 3, 4] rfl rfl rfl rfl) rfl rfl hl.1 rfl (lv_room (Nat.le_of_ble_eq_true rfl)) dX5_total_20 ⟨Nat.zero_le _, Nat.zero_le _⟩) ?_
  refine lv_goto (tgt := 27) hx hb dX5_total_23 rfl ?_
  exact W.iret hx hb hr (fun tZ ht hW => ⟨_, rfl, rfl, ht⟩) (fun q h => by cases h) dX5_total_27
set_option maxHeartbeats 4000000 in
set_option maxRecDepth 100000 in
theorem c_kinds_bad (l : Launch) (D : va_G) (cI cO : ClassId) (z : Nat) (h : Nat) (q0 : Nat) (qe : Nat) (hc : Nat) (s : Nat) (s2 : Nat) (xa : Nat) (xb : Nat) (k : Int32) (x : Int32) (y : Int32) (hn : ¬ ((1 ≤ k.toInt ∧ k.toInt ≤ 3) ∧ (k.toInt < 2 ∨ (0 ≤ y.toInt ∧ y.toInt < 7)) ∧ (k.toInt < 3 ∨ (0 ≤ x.toInt ∧ x.toInt < 7)))) : Met l yX5_kinds (.code yX5_kinds cX5_kinds 4 (some .int) :: sgT) ({ frames := 4, cells := 0, slots := 0, locals := 92 }) (sgPc D cI cO [.ref z, .int k, .int x, .int y] [(z, .inr (5, [.ref h, .ref q0, .ref qe, .ref hc, .ref s, .ref s2, .ref xa, .ref xb]))]) (vp_Si (fun r => r = nI 0)) 0 0 (fun _ => False) := by
  refine Met.ofW (cc := cX5_kinds) (maxL := 4) (ret := (some .int)) (by decide) rfl ?_
  intro pZ eZ sZ mZ argsZ belowZ methZ cZ s₁ BZ hml hv
  obtain ⟨rfl, hP, hK⟩ := hv
  have hx := BZ.exec
  have hb := BZ.bytes
  have hr := BZ.returns
  have hts : ∀ wZ ∈ sgT, wZ.before ([.ref z, .int k, .int x, .int y] : List Value).toArray sZ = true := fun wZ h => atoms_spec (ws := (.code yX5_kinds cX5_kinds 4 (some .int) :: sgT)) BZ.pre wZ (List.mem_cons_of_mem _ h)
  have hown : sZ.vm.findClass RX5 = some mZ.cls := findClass_of_methodNamed BZ.named
  have hlocks := BZ.notSynchronized
  have hl := lv_entry ([.ref z, .int k, .int x, .int y]) (n := 4) (Nat.le_of_ble_eq_true rfl)
  rw [lg_entry_eq]
  generalize (lg_sl ([.ref z, .int k, .int x, .int y]) ++ List.replicate (4 - (lg_sl ([.ref z, .int k, .int x, .int y])).length) Slot.unset).toArray = ls at hl ⊢
  have hl : lv_has ls 4 [(0, .ref z), (1, .int k), (2, .int x), (3, .int y)] := hl
  refine lv_iload_n hx hb dX5_kinds_0 rfl (lv_at hl 1 rfl) ?_
  refine lv_iload_n hx hb dX5_kinds_1 rfl (lv_at hl 2 rfl) ?_
  refine lv_iload_n hx hb dX5_kinds_2 rfl (lv_at hl 3 rfl) ?_
  refine sg_callRi (va_runS (As := [.int k, .int x, .int y]) (rest := []) ⟨hx, hb, hml, hown, hts⟩ (c_X5_isContext l D cI cO k x y) ⟨(sg_cB 3 hts mcX5_isContext ml_X5_86 in_X5 rfl rfl (by decide +kernel) ⟨Nat.le_of_ble_eq_true rfl, Nat.le_of_ble_eq_true rfl⟩), hts _ st_X5_isContext⟩ (sg_pS hK hP [] rfl) rfl rfl hl.1 rfl (lv_room (Nat.le_of_ble_eq_true rfl)) dX5_kinds_3 ⟨Nat.zero_le _, Nat.zero_le _⟩) ?_
  refine ci_beq (P := ((1 ≤ k.toInt ∧ k.toInt ≤ 3) ∧ (k.toInt < 2 ∨ (0 ≤ y.toInt ∧ y.toInt < 7)) ∧ (k.toInt < 3 ∨ (0 ≤ x.toInt ∧ x.toInt < 7)))) (tgt := 26) hx hb dX5_kinds_6 rfl (fun h6 => ?_) (fun h6 => by exfalso; omega)
  refine lv_iconst (v := nI 0) hx hb dX5_kinds_26 (by decide) ?_
  exact W.iret hx hb hr (fun tZ ht hW => ⟨_, rfl, rfl, ht⟩) (fun q h => by cases h) dX5_kinds_27
set_option maxHeartbeats 4000000 in
set_option maxRecDepth 100000 in
theorem c_X5_kinds (l : Launch) (D : va_G) (cI cO : ClassId) (z : Nat) (h : Nat) (q0 : Nat) (qe : Nat) (hc : Nat) (s : Nat) (s2 : Nat) (xa : Nat) (xb : Nat) (q1 : Nat) (q2 : Nat) (q3 : Nat) (ord : Nat) (f1 : Nat → Int32) (f2 : Nat → Int32) (f3 : Nat → Int32) (rw : Nat → Nat → Nat → Nat → Nat) (k : Nat) (x : Int32) (y : Int32) (a : Nat) (b : Nat) (hH : sgHold rw f1 f2 f3) (hF : sgFlat rw) (hB : sgBd rw) (ho : 1 ≤ ord ∧ ord ≤ 3) (hk : 1 ≤ k ∧ k ≤ 3) (hy : 2 ≤ k → y = nI b) (hz : 3 ≤ k → x = nI a) (ha : a < 7) (hbb : b < 7) : Met l yX5_kinds (.code yX5_kinds cX5_kinds 4 (some .int) :: sgT) ({ frames := 4, cells := 0, slots := 0, locals := 92 }) (sgPc D cI cO [.ref z, .int (nI k), .int x, .int y] [(z, .inr (5, [.ref h, .ref q0, .ref qe, .ref hc, .ref s, .ref s2, .ref xa, .ref xb])), (q0, .inr (1, [.ref q1, .ref q2, .ref q3, .int (nI ord)])), (q1, .inl (cI, 7, .inl f1)), (q2, .inl (cI, 49, .inl f2)), (q3, .inl (cI, 343, .inl f3))]) (vp_Si (fun r => r = nI (sgKin rw ord k a b 6))) 0 0 (fun _ => False) := by
  refine Met.ofW (cc := cX5_kinds) (maxL := 4) (ret := (some .int)) (by decide) rfl ?_
  intro pZ eZ sZ mZ argsZ belowZ methZ cZ s₁ BZ hml hv
  obtain ⟨rfl, hP, hK⟩ := hv
  have hx := BZ.exec
  have hb := BZ.bytes
  have hr := BZ.returns
  have hts : ∀ wZ ∈ sgT, wZ.before ([.ref z, .int (nI k), .int x, .int y] : List Value).toArray sZ = true := fun wZ h => atoms_spec (ws := (.code yX5_kinds cX5_kinds 4 (some .int) :: sgT)) BZ.pre wZ (List.mem_cons_of_mem _ h)
  have hown : sZ.vm.findClass RX5 = some mZ.cls := findClass_of_methodNamed BZ.named
  have hlocks := BZ.notSynchronized
  have hl := lv_entry ([.ref z, .int (nI k), .int x, .int y]) (n := 4) (Nat.le_of_ble_eq_true rfl)
  rw [lg_entry_eq]
  generalize (lg_sl ([.ref z, .int (nI k), .int x, .int y]) ++ List.replicate (4 - (lg_sl ([.ref z, .int (nI k), .int x, .int y])).length) Slot.unset).toArray = ls at hl ⊢
  have hl : lv_has ls 4 [(0, .ref z), (1, .int (nI k)), (2, .int x), (3, .int y)] := hl
  have hkI := sg_n (n := k) (by omega)
  have hyI : 2 ≤ k → y.toInt = (b : Int) := fun h => by rw [hy h]; exact sg_n (by omega)
  have hzI : 3 ≤ k → x.toInt = (a : Int) := fun h => by rw [hz h]; exact sg_n (by omega)
  refine lv_iload_n hx hb dX5_kinds_0 rfl (lv_at hl 1 rfl) ?_
  refine lv_iload_n hx hb dX5_kinds_1 rfl (lv_at hl 2 rfl) ?_
  refine lv_iload_n hx hb dX5_kinds_2 rfl (lv_at hl 3 rfl) ?_
  refine sg_callRi (va_runS (As := [.int (nI k), .int x, .int y]) (rest := []) ⟨hx, hb, hml, hown, hts⟩ (c_X5_isContext l D cI cO (nI k) x y) ⟨(sg_cB 3 hts mcX5_isContext ml_X5_86 in_X5 rfl rfl (by decide +kernel) ⟨Nat.le_of_ble_eq_true rfl, Nat.le_of_ble_eq_true rfl⟩), hts _ st_X5_isContext⟩ (sg_pS hK hP [] rfl) rfl rfl hl.1 rfl (lv_room (Nat.le_of_ble_eq_true rfl)) dX5_kinds_3 ⟨Nat.zero_le _, Nat.zero_le _⟩) ?_
  refine ci_beq (P := ((1 ≤ (nI k).toInt ∧ (nI k).toInt ≤ 3) ∧ ((nI k).toInt < 2 ∨ (0 ≤ y.toInt ∧ y.toInt < 7)) ∧ ((nI k).toInt < 3 ∨ (0 ≤ x.toInt ∧ x.toInt < 7)))) (tgt := 26) hx hb dX5_kinds_6 rfl (fun h6 => by exfalso; omega) (fun h6 => ?_)
  refine lv_aload_n hx hb dX5_kinds_9 rfl (lv_at hl 0 rfl) ?_
  refine va_get (D := D) (ci := 5) (v := .ref q0) (C := RX5) (T := TX5) (N := 8) hx hb hts hinX5 hown hK.1 hP 0 rfl rfl 1 (by decide) (hts _ fl_X5_19) (fun _ h9 => h9) rfl dX5_kinds_10 ?_
  refine lv_iload_n hx hb dX5_kinds_13 rfl (lv_at hl 1 rfl) ?_
  refine lv_iload_n hx hb dX5_kinds_14 rfl (lv_at hl 1 rfl) ?_
  refine lv_iload_n hx hb dX5_kinds_15 rfl (lv_at hl 2 rfl) ?_
  refine lv_iload_n hx hb dX5_kinds_16 rfl (lv_at hl 3 rfl) ?_
  refine sg_callRi (va_runS (As := [.int (nI k), .int x, .int y]) (rest := [.int (nI k), .ref q0]) ⟨hx, hb, hml, hown, hts⟩ (c_X5_contextOf l D cI cO k x y a b (by omega) hy hz) ⟨(sg_cB 3 hts mcX5_contextOf ml_X5_93 in_X5 rfl rfl (by decide +kernel) ⟨Nat.le_of_ble_eq_true rfl, Nat.le_of_ble_eq_true rfl⟩), hts _ st_X5_contextOf⟩ (sg_pS hK hP [] rfl) rfl rfl hl.1 rfl (lv_room (Nat.le_of_ble_eq_true rfl)) dX5_kinds_17 ⟨Nat.zero_le _, Nat.zero_le _⟩) ?_
  refine sg_callRi (va_runV (As := [.int (nI k), .int (nI (sgCx k a b))]) (rest := []) (C := RX1) ⟨hx, hb, hml, hown, hts⟩ (c_X1_kindsBehind l D cI cO q0 q1 q2 q3 ord f1 f2 f3 rw k a b hH hF hB (by omega) (by omega) (by omega) (by omega)) ⟨(sg_cB 2 hts mcX1_kindsBehind ml_X5_104 in_X1 rfl rfl (by decide +kernel) ⟨Nat.le_of_ble_eq_true rfl, Nat.le_of_ble_eq_true rfl⟩), hts _ im_X1_kindsBehind, hts _ se_X1_kindsBehind⟩ (sg_pV (q0 := 1) hK hP [1, 2, 3, 4] rfl rfl rfl rfl) rfl rfl hl.1 rfl (lv_room (Nat.le_of_ble_eq_true rfl)) dX5_kinds_20 ⟨Nat.zero_le _, Nat.zero_le _⟩) ?_
  refine lv_goto (tgt := 27) hx hb dX5_kinds_23 rfl ?_
  exact W.iret hx hb hr (fun tZ ht hW => ⟨_, rfl, rfl, ht⟩) (fun q h => by cases h) dX5_kinds_27
set_option maxHeartbeats 4000000 in
set_option maxRecDepth 100000 in
theorem c_grams_bad (l : Launch) (D : va_G) (cI cO : ClassId) (z : Nat) (h : Nat) (q0 : Nat) (qe : Nat) (hc : Nat) (s : Nat) (s2 : Nat) (xa : Nat) (xb : Nat) (k : Int32) (hn : ¬ (1 ≤ k.toInt ∧ k.toInt ≤ 3)) : Met l yX5_grams (.code yX5_grams cX5_grams 4 (some .int) :: sgT) ({ frames := 3, cells := 0, slots := 0, locals := 68 }) (sgPc D cI cO [.ref z, .int k] [(z, .inr (5, [.ref h, .ref q0, .ref qe, .ref hc, .ref s, .ref s2, .ref xa, .ref xb]))]) (vp_Si (fun r => r = -1)) 0 0 (fun _ => False) := by
  refine Met.ofW (cc := cX5_grams) (maxL := 4) (ret := (some .int)) (by decide) rfl ?_
  intro pZ eZ sZ mZ argsZ belowZ methZ cZ s₁ BZ hml hv
  obtain ⟨rfl, hP, hK⟩ := hv
  have hx := BZ.exec
  have hb := BZ.bytes
  have hr := BZ.returns
  have hts : ∀ wZ ∈ sgT, wZ.before ([.ref z, .int k] : List Value).toArray sZ = true := fun wZ h => atoms_spec (ws := (.code yX5_grams cX5_grams 4 (some .int) :: sgT)) BZ.pre wZ (List.mem_cons_of_mem _ h)
  have hown : sZ.vm.findClass RX5 = some mZ.cls := findClass_of_methodNamed BZ.named
  have hlocks := BZ.notSynchronized
  have hl := lv_entry ([.ref z, .int k]) (n := 4) (Nat.le_of_ble_eq_true rfl)
  rw [lg_entry_eq]
  generalize (lg_sl ([.ref z, .int k]) ++ List.replicate (4 - (lg_sl ([.ref z, .int k])).length) Slot.unset).toArray = ls at hl ⊢
  have hl : lv_has ls 4 [(0, .ref z), (1, .int k)] := hl
  refine lv_iload_n hx hb dX5_grams_0 rfl (lv_at hl 1 rfl) ?_
  refine sg_callRi (va_runS (As := [.int k]) (rest := []) ⟨hx, hb, hml, hown, hts⟩ (c_X5_isLevel l D cI cO k) ⟨(sg_cB 1 hts mcX5_isLevel ml_X5_56 in_X5 rfl rfl (by decide +kernel) ⟨Nat.le_of_ble_eq_true rfl, Nat.le_of_ble_eq_true rfl⟩), hts _ st_X5_isLevel⟩ (sg_pS hK hP [] rfl) rfl rfl hl.1 rfl (lv_room (Nat.le_of_ble_eq_true rfl)) dX5_grams_1 ⟨Nat.zero_le _, Nat.zero_le _⟩) ?_
  refine ci_bne (P := (1 ≤ k.toInt ∧ k.toInt ≤ 3)) (tgt := 9) hx hb dX5_grams_4 rfl (fun h4 => by exfalso; omega) (fun h4 => ?_)
  refine lv_iconst (v := -1) hx hb dX5_grams_7 (by decide) ?_
  exact W.iret hx hb hr (fun tZ ht hW => ⟨_, rfl, rfl, ht⟩) (fun q h => by cases h) dX5_grams_8
set_option maxHeartbeats 4000000 in
set_option maxRecDepth 100000 in
theorem c_X5_grams (l : Launch) (D : va_G) (cI cO : ClassId) (z : Nat) (h : Nat) (q0 : Nat) (qe : Nat) (hc : Nat) (s : Nat) (s2 : Nat) (xa : Nat) (xb : Nat) (q1 : Nat) (q2 : Nat) (q3 : Nat) (ord : Nat) (f1 : Nat → Int32) (f2 : Nat → Int32) (f3 : Nat → Int32) (rw : Nat → Nat → Nat → Nat → Nat) (k : Nat) (hH : sgHold rw f1 f2 f3) (hB : sgBd rw) (ho : 1 ≤ ord ∧ ord ≤ 3) (hk : 1 ≤ k ∧ k ≤ 3) : Met l yX5_grams (.code yX5_grams cX5_grams 4 (some .int) :: sgT) ({ frames := 3, cells := 0, slots := 0, locals := 68 }) (sgPc D cI cO [.ref z, .int (nI k)] [(z, .inr (5, [.ref h, .ref q0, .ref qe, .ref hc, .ref s, .ref s2, .ref xa, .ref xb])), (q0, .inr (1, [.ref q1, .ref q2, .ref q3, .int (nI ord)])), (q1, .inl (cI, 7, .inl f1)), (q2, .inl (cI, 49, .inl f2)), (q3, .inl (cI, 343, .inl f3))]) (vp_Si (fun r => r = nI (sgG rw ord k (sgAll k)))) 0 0 (fun _ => False) := by
  refine Met.ofW (cc := cX5_grams) (maxL := 4) (ret := (some .int)) (by decide) rfl ?_
  intro pZ eZ sZ mZ argsZ belowZ methZ cZ s₁ BZ hml hv
  obtain ⟨rfl, hP, hK⟩ := hv
  have hx := BZ.exec
  have hb := BZ.bytes
  have hr := BZ.returns
  have hts : ∀ wZ ∈ sgT, wZ.before ([.ref z, .int (nI k)] : List Value).toArray sZ = true := fun wZ h => atoms_spec (ws := (.code yX5_grams cX5_grams 4 (some .int) :: sgT)) BZ.pre wZ (List.mem_cons_of_mem _ h)
  have hown : sZ.vm.findClass RX5 = some mZ.cls := findClass_of_methodNamed BZ.named
  have hlocks := BZ.notSynchronized
  have hl := lv_entry ([.ref z, .int (nI k)]) (n := 4) (Nat.le_of_ble_eq_true rfl)
  rw [lg_entry_eq]
  generalize (lg_sl ([.ref z, .int (nI k)]) ++ List.replicate (4 - (lg_sl ([.ref z, .int (nI k)])).length) Slot.unset).toArray = ls at hl ⊢
  have hl : lv_has ls 4 [(0, .ref z), (1, .int (nI k))] := hl
  have hkI := sg_n (n := k) (by omega)
  have hAl := sgAll_le k
  refine lv_iload_n hx hb dX5_grams_0 rfl (lv_at hl 1 rfl) ?_
  refine sg_callRi (va_runS (As := [.int (nI k)]) (rest := []) ⟨hx, hb, hml, hown, hts⟩ (c_X5_isLevel l D cI cO (nI k)) ⟨(sg_cB 1 hts mcX5_isLevel ml_X5_56 in_X5 rfl rfl (by decide +kernel) ⟨Nat.le_of_ble_eq_true rfl, Nat.le_of_ble_eq_true rfl⟩), hts _ st_X5_isLevel⟩ (sg_pS hK hP [] rfl) rfl rfl hl.1 rfl (lv_room (Nat.le_of_ble_eq_true rfl)) dX5_grams_1 ⟨Nat.zero_le _, Nat.zero_le _⟩) ?_
  refine ci_bne (P := (1 ≤ (nI k).toInt ∧ (nI k).toInt ≤ 3)) (tgt := 9) hx hb dX5_grams_4 rfl (fun h4 => ?_) (fun h4 => by exfalso; omega)
  refine lv_iconst (v := nI 0) hx hb dX5_grams_9 (by decide) ?_
  refine lv_istore_n hx hb dX5_grams_10 rfl hl (by decide) rfl (fun ls hl => ?_)
  have hl : lv_has ls 4 [(2, .int (nI 0)), (0, .ref z), (1, .int (nI k))] := hl
  refine lv_iconst (v := nI 0) hx hb dX5_grams_11 (by decide) ?_
  refine lv_istore_n hx hb dX5_grams_12 rfl hl (by decide) rfl (fun ls hl => ?_)
  have hl : lv_has ls 4 [(3, .int (nI 0)), (2, .int (nI 0)), (0, .ref z), (1, .int (nI k))] := hl
  refine sw_loopR (I := fun kM ls => ∃ (g : Nat) (n : Nat), kM = sgAll k - g ∧ lv_has ls 4 [(3, .int (nI g)), (2, .int (nI n)), (0, .ref z), (1, .int (nI k))] ∧ (g ≤ sgAll k) ∧ (n = sgG rw ord k g)) ?_ _ ⟨0, 0, rfl, hl, by omega, rfl⟩
  intro kM ls hI ih13
  obtain ⟨g, n, hkM, hl, hi, hn⟩ := hI
  refine lv_iload_n hx hb dX5_grams_13 rfl (lv_at hl 0 rfl) ?_
  refine lv_iload_n hx hb dX5_grams_14 rfl (lv_at hl 3 rfl) ?_
  refine sg_callRi (va_runS (As := [.int (nI k)]) (rest := [.int (nI g)]) ⟨hx, hb, hml, hown, hts⟩ (c_X5_rowsOf l D cI cO k (by omega)) ⟨(sg_cB 1 hts mcX5_rowsOf ml_X5_107 in_X5 rfl rfl (by decide +kernel) ⟨Nat.le_of_ble_eq_true rfl, Nat.le_of_ble_eq_true rfl⟩), hts _ st_X5_rowsOf⟩ (sg_pS hK hP [] rfl) rfl rfl hl.1 rfl (lv_room (Nat.le_of_ble_eq_true rfl)) dX5_grams_15 ⟨Nat.zero_le _, Nat.zero_le _⟩) ?_
  refine ci_icmp_ge (X := ((g : Nat) : Int)) (Y := ((sgAll k : Nat) : Int)) (tgt := 42) hx hb (sg_n (by omega)) (sg_n (by omega)) dX5_grams_18 rfl (fun h18 => ?_) (fun h18 => ?_)
  · refine lv_iload_n hx hb dX5_grams_42 rfl (lv_at hl 1 rfl) ?_
    exact W.iret hx hb hr (fun tZ ht hW => ⟨_, rfl, (by rw [hn]; congr 2; omega), ht⟩) (fun q h => by cases h) dX5_grams_43
  · refine lv_aload_n hx hb dX5_grams_21 rfl (lv_at hl 2 rfl) ?_
    refine va_get (D := D) (ci := 5) (v := .ref q0) (C := RX5) (T := TX5) (N := 8) hx hb hts hinX5 hown hK.1 hP 0 rfl rfl 1 (by decide) (hts _ fl_X5_19) (fun _ h9 => h9) rfl dX5_grams_22 ?_
    refine lv_iload_n hx hb dX5_grams_25 rfl (lv_at hl 3 rfl) ?_
    refine lv_iload_n hx hb dX5_grams_26 rfl (lv_at hl 0 rfl) ?_
    refine sg_callRi (va_runV (As := [.int (nI k), .int (nI g)]) (rest := []) (C := RX1) ⟨hx, hb, hml, hown, hts⟩ (c_X1_ofRow l D cI cO q0 q1 q2 q3 ord f1 f2 f3 rw k g hH hB (by omega) (by omega) (by omega)) ⟨(sg_cB 2 hts mcX1_ofRow ml_X5_97 in_X1 rfl rfl (by decide +kernel) ⟨Nat.le_of_ble_eq_true rfl, Nat.le_of_ble_eq_true rfl⟩), hts _ im_X1_ofRow, hts _ se_X1_ofRow⟩ (sg_pV (q0 := 1) hK hP [1, 2, 3, 4] rfl rfl rfl rfl) rfl rfl hl.1 rfl (lv_room (Nat.le_of_ble_eq_true rfl)) dX5_grams_27 ⟨Nat.zero_le _, Nat.zero_le _⟩) ?_
    have hv := sgCg_le hB ord k g
    refine ci_if_le (X := ((sgCg rw ord k g : Nat) : Int)) (tgt := 36) hx hb (sg_n (by omega)) dX5_grams_30 rfl (fun h30 => ?_) (fun h30 => ?_)
    · refine lv_iinc (v := nI (g + 1)) hx hb dX5_grams_36 hl (k := 0) rfl (sg_inc _) (by decide) rfl (fun ls hl => ?_)
      have hl : lv_has ls 4 [(3, .int (nI (g + 1))), (2, .int (nI n)), (0, .ref z), (1, .int (nI k))] := hl
      refine lv_goto (tgt := 13) hx hb dX5_grams_39 rfl ?_
      exact ih13 _ _ ⟨g + 1, n, rfl, lv_sub hl [0, 1, 2, 3] rfl, by omega, by first | (rw [sgG_p (by omega)]; omega) | (rw [sgG_z (by omega)]; omega)⟩ (by omega)
    · refine lv_iinc (v := nI (n + 1)) hx hb dX5_grams_33 hl (k := 1) rfl (sg_inc _) (by decide) rfl (fun ls hl => ?_)
      have hl : lv_has ls 4 [(2, .int (nI (n + 1))), (3, .int (nI g)), (0, .ref z), (1, .int (nI k))] := hl
      refine lv_iinc (v := nI (g + 1)) hx hb dX5_grams_36 hl (k := 1) rfl (sg_inc _) (by decide) rfl (fun ls hl => ?_)
      have hl : lv_has ls 4 [(3, .int (nI (g + 1))), (2, .int (nI (n + 1))), (0, .ref z), (1, .int (nI k))] := hl
      refine lv_goto (tgt := 13) hx hb dX5_grams_39 rfl ?_
      exact ih13 _ _ ⟨g + 1, n + 1, rfl, lv_sub hl [0, 1, 2, 3] rfl, by omega, by first | (rw [sgG_p (by omega)]; omega) | (rw [sgG_z (by omega)]; omega)⟩ (by omega)
set_option maxHeartbeats 4000000 in
set_option maxRecDepth 100000 in
theorem c_gram_bad (l : Launch) (D : va_G) (cI cO : ClassId) (z : Nat) (h : Nat) (q0 : Nat) (qe : Nat) (hc : Nat) (s : Nat) (s2 : Nat) (xa : Nat) (xb : Nat) (k : Int32) (i : Int32) (hn : ¬ ((1 ≤ k.toInt ∧ k.toInt ≤ 3) ∧ 0 ≤ i.toInt)) : Met l yX5_gram (.code yX5_gram cX5_gram 5 (some .int) :: sgT) ({ frames := 3, cells := 0, slots := 0, locals := 68 }) (sgPc D cI cO [.ref z, .int k, .int i] [(z, .inr (5, [.ref h, .ref q0, .ref qe, .ref hc, .ref s, .ref s2, .ref xa, .ref xb]))]) (vp_Si (fun r => r = -1)) 0 0 (fun _ => False) := by
  refine Met.ofW (cc := cX5_gram) (maxL := 5) (ret := (some .int)) (by decide) rfl ?_
  intro pZ eZ sZ mZ argsZ belowZ methZ cZ s₁ BZ hml hv
  obtain ⟨rfl, hP, hK⟩ := hv
  have hx := BZ.exec
  have hb := BZ.bytes
  have hr := BZ.returns
  have hts : ∀ wZ ∈ sgT, wZ.before ([.ref z, .int k, .int i] : List Value).toArray sZ = true := fun wZ h => atoms_spec (ws := (.code yX5_gram cX5_gram 5 (some .int) :: sgT)) BZ.pre wZ (List.mem_cons_of_mem _ h)
  have hown : sZ.vm.findClass RX5 = some mZ.cls := findClass_of_methodNamed BZ.named
  have hlocks := BZ.notSynchronized
  have hl := lv_entry ([.ref z, .int k, .int i]) (n := 5) (Nat.le_of_ble_eq_true rfl)
  rw [lg_entry_eq]
  generalize (lg_sl ([.ref z, .int k, .int i]) ++ List.replicate (5 - (lg_sl ([.ref z, .int k, .int i])).length) Slot.unset).toArray = ls at hl ⊢
  have hl : lv_has ls 5 [(0, .ref z), (1, .int k), (2, .int i)] := hl
  refine lv_iload_n hx hb dX5_gram_0 rfl (lv_at hl 1 rfl) ?_
  refine sg_callRi (va_runS (As := [.int k]) (rest := []) ⟨hx, hb, hml, hown, hts⟩ (c_X5_isLevel l D cI cO k) ⟨(sg_cB 1 hts mcX5_isLevel ml_X5_56 in_X5 rfl rfl (by decide +kernel) ⟨Nat.le_of_ble_eq_true rfl, Nat.le_of_ble_eq_true rfl⟩), hts _ st_X5_isLevel⟩ (sg_pS hK hP [] rfl) rfl rfl hl.1 rfl (lv_room (Nat.le_of_ble_eq_true rfl)) dX5_gram_1 ⟨Nat.zero_le _, Nat.zero_le _⟩) ?_
  refine ci_beq (P := (1 ≤ k.toInt ∧ k.toInt ≤ 3)) (tgt := 11) hx hb dX5_gram_4 rfl (fun h4 => ?_) (fun h4 => ?_)
  · refine lv_iconst (v := -1) hx hb dX5_gram_11 (by decide) ?_
    exact W.iret hx hb hr (fun tZ ht hW => ⟨_, rfl, rfl, ht⟩) (fun q h => by cases h) dX5_gram_12
  · refine lv_iload_n hx hb dX5_gram_7 rfl (lv_at hl 2 rfl) ?_
    refine ci_if_ge (X := i.toInt) (tgt := 13) hx hb rfl dX5_gram_8 rfl (fun h8 => by exfalso; omega) (fun h8 => ?_)
    refine lv_iconst (v := -1) hx hb dX5_gram_11 (by decide) ?_
    exact W.iret hx hb hr (fun tZ ht hW => ⟨_, rfl, rfl, ht⟩) (fun q h => by cases h) dX5_gram_12
set_option maxHeartbeats 4000000 in
set_option maxRecDepth 100000 in
theorem c_X5_gram (l : Launch) (D : va_G) (cI cO : ClassId) (z : Nat) (h : Nat) (q0 : Nat) (qe : Nat) (hc : Nat) (s : Nat) (s2 : Nat) (xa : Nat) (xb : Nat) (q1 : Nat) (q2 : Nat) (q3 : Nat) (ord : Nat) (f1 : Nat → Int32) (f2 : Nat → Int32) (f3 : Nat → Int32) (rw : Nat → Nat → Nat → Nat → Nat) (k : Nat) (i : Int32) (hH : sgHold rw f1 f2 f3) (hB : sgBd rw) (ho : 1 ≤ ord ∧ ord ≤ 3) (hk : 1 ≤ k ∧ k ≤ 3) (hi0 : 0 ≤ i.toInt) : Met l yX5_gram (.code yX5_gram cX5_gram 5 (some .int) :: sgT) ({ frames := 3, cells := 0, slots := 0, locals := 68 }) (sgPc D cI cO [.ref z, .int (nI k), .int i] [(z, .inr (5, [.ref h, .ref q0, .ref qe, .ref hc, .ref s, .ref s2, .ref xa, .ref xb])), (q0, .inr (1, [.ref q1, .ref q2, .ref q3, .int (nI ord)])), (q1, .inl (cI, 7, .inl f1)), (q2, .inl (cI, 49, .inl f2)), (q3, .inl (cI, 343, .inl f3))]) (vp_Si (fun r => r = sgFd rw ord k i (sgAll k) 0 0)) 0 0 (fun _ => False) := by
  refine Met.ofW (cc := cX5_gram) (maxL := 5) (ret := (some .int)) (by decide) rfl ?_
  intro pZ eZ sZ mZ argsZ belowZ methZ cZ s₁ BZ hml hv
  obtain ⟨rfl, hP, hK⟩ := hv
  have hx := BZ.exec
  have hb := BZ.bytes
  have hr := BZ.returns
  have hts : ∀ wZ ∈ sgT, wZ.before ([.ref z, .int (nI k), .int i] : List Value).toArray sZ = true := fun wZ h => atoms_spec (ws := (.code yX5_gram cX5_gram 5 (some .int) :: sgT)) BZ.pre wZ (List.mem_cons_of_mem _ h)
  have hown : sZ.vm.findClass RX5 = some mZ.cls := findClass_of_methodNamed BZ.named
  have hlocks := BZ.notSynchronized
  have hl := lv_entry ([.ref z, .int (nI k), .int i]) (n := 5) (Nat.le_of_ble_eq_true rfl)
  rw [lg_entry_eq]
  generalize (lg_sl ([.ref z, .int (nI k), .int i]) ++ List.replicate (5 - (lg_sl ([.ref z, .int (nI k), .int i])).length) Slot.unset).toArray = ls at hl ⊢
  have hl : lv_has ls 5 [(0, .ref z), (1, .int (nI k)), (2, .int i)] := hl
  have hkI := sg_n (n := k) (by omega)
  have hAl := sgAll_le k
  refine lv_iload_n hx hb dX5_gram_0 rfl (lv_at hl 1 rfl) ?_
  refine sg_callRi (va_runS (As := [.int (nI k)]) (rest := []) ⟨hx, hb, hml, hown, hts⟩ (c_X5_isLevel l D cI cO (nI k)) ⟨(sg_cB 1 hts mcX5_isLevel ml_X5_56 in_X5 rfl rfl (by decide +kernel) ⟨Nat.le_of_ble_eq_true rfl, Nat.le_of_ble_eq_true rfl⟩), hts _ st_X5_isLevel⟩ (sg_pS hK hP [] rfl) rfl rfl hl.1 rfl (lv_room (Nat.le_of_ble_eq_true rfl)) dX5_gram_1 ⟨Nat.zero_le _, Nat.zero_le _⟩) ?_
  refine ci_beq (P := (1 ≤ (nI k).toInt ∧ (nI k).toInt ≤ 3)) (tgt := 11) hx hb dX5_gram_4 rfl (fun h4 => by exfalso; omega) (fun h4 => ?_)
  refine lv_iload_n hx hb dX5_gram_7 rfl (lv_at hl 2 rfl) ?_
  refine ci_if_ge (X := i.toInt) (tgt := 13) hx hb rfl dX5_gram_8 rfl (fun h8 => ?_) (fun h8 => by exfalso; omega)
  refine lv_iconst (v := nI 0) hx hb dX5_gram_13 (by decide) ?_
  refine lv_istore_n hx hb dX5_gram_14 rfl hl (by decide) rfl (fun ls hl => ?_)
  have hl : lv_has ls 5 [(3, .int (nI 0)), (0, .ref z), (1, .int (nI k)), (2, .int i)] := hl
  refine lv_iconst (v := nI 0) hx hb dX5_gram_15 (by decide) ?_
  refine lv_istore hx hb dX5_gram_16 hl (by decide) rfl (fun ls hl => ?_)
  have hl : lv_has ls 5 [(4, .int (nI 0)), (3, .int (nI 0)), (0, .ref z), (1, .int (nI k)), (2, .int i)] := hl
  refine sw_loopR (I := fun kM ls => ∃ (g : Nat) (n : Nat), kM = sgAll k - g ∧ lv_has ls 5 [(4, .int (nI g)), (3, .int (nI n)), (0, .ref z), (1, .int (nI k)), (2, .int i)] ∧ (g ≤ sgAll k) ∧ (n ≤ g) ∧ (sgFd rw ord k i (sgAll k) 0 0 = sgFd rw ord k i (sgAll k - g) g n)) ?_ _ ⟨0, 0, rfl, hl, by omega, by omega, rfl⟩
  intro kM ls hI ih18
  obtain ⟨g, n, hkM, hl, hi, hng, hq⟩ := hI
  refine lv_iload hx hb dX5_gram_18 (lv_at hl 0 rfl) ?_
  refine lv_iload_n hx hb dX5_gram_20 rfl (lv_at hl 3 rfl) ?_
  refine sg_callRi (va_runS (As := [.int (nI k)]) (rest := [.int (nI g)]) ⟨hx, hb, hml, hown, hts⟩ (c_X5_rowsOf l D cI cO k (by omega)) ⟨(sg_cB 1 hts mcX5_rowsOf ml_X5_107 in_X5 rfl rfl (by decide +kernel) ⟨Nat.le_of_ble_eq_true rfl, Nat.le_of_ble_eq_true rfl⟩), hts _ st_X5_rowsOf⟩ (sg_pS hK hP [] rfl) rfl rfl hl.1 rfl (lv_room (Nat.le_of_ble_eq_true rfl)) dX5_gram_21 ⟨Nat.zero_le _, Nat.zero_le _⟩) ?_
  refine ci_icmp_ge (X := ((g : Nat) : Int)) (Y := ((sgAll k : Nat) : Int)) (tgt := 57) hx hb (sg_n (by omega)) (sg_n (by omega)) dX5_gram_24 rfl (fun h24 => ?_) (fun h24 => ?_)
  · refine lv_iconst (v := -1) hx hb dX5_gram_57 (by decide) ?_
    exact W.iret hx hb hr (fun tZ ht hW => ⟨_, rfl, (by rw [hq]; exact (sgFd_end (by omega)).symm), ht⟩) (fun q h => by cases h) dX5_gram_58
  · refine lv_aload_n hx hb dX5_gram_27 rfl (lv_at hl 2 rfl) ?_
    refine va_get (D := D) (ci := 5) (v := .ref q0) (C := RX5) (T := TX5) (N := 8) hx hb hts hinX5 hown hK.1 hP 0 rfl rfl 1 (by decide) (hts _ fl_X5_19) (fun _ h9 => h9) rfl dX5_gram_28 ?_
    refine lv_iload_n hx hb dX5_gram_31 rfl (lv_at hl 3 rfl) ?_
    refine lv_iload hx hb dX5_gram_32 (lv_at hl 0 rfl) ?_
    refine sg_callRi (va_runV (As := [.int (nI k), .int (nI g)]) (rest := []) (C := RX1) ⟨hx, hb, hml, hown, hts⟩ (c_X1_ofRow l D cI cO q0 q1 q2 q3 ord f1 f2 f3 rw k g hH hB (by omega) (by omega) (by omega)) ⟨(sg_cB 2 hts mcX1_ofRow ml_X5_97 in_X1 rfl rfl (by decide +kernel) ⟨Nat.le_of_ble_eq_true rfl, Nat.le_of_ble_eq_true rfl⟩), hts _ im_X1_ofRow, hts _ se_X1_ofRow⟩ (sg_pV (q0 := 1) hK hP [1, 2, 3, 4] rfl rfl rfl rfl) rfl rfl hl.1 rfl (lv_room (Nat.le_of_ble_eq_true rfl)) dX5_gram_34 ⟨Nat.zero_le _, Nat.zero_le _⟩) ?_
    have hv := sgCg_le hB ord k g
    refine ci_if_le (X := ((sgCg rw ord k g : Nat) : Int)) (tgt := 51) hx hb (sg_n (by omega)) dX5_gram_37 rfl (fun h37 => ?_) (fun h37 => ?_)
    · refine lv_iinc (v := nI (g + 1)) hx hb dX5_gram_51 hl (k := 0) rfl (sg_inc _) (by decide) rfl (fun ls hl => ?_)
      have hl : lv_has ls 5 [(4, .int (nI (g + 1))), (3, .int (nI n)), (0, .ref z), (1, .int (nI k)), (2, .int i)] := hl
      refine lv_goto (tgt := 18) hx hb dX5_gram_54 rfl ?_
      exact ih18 _ _ ⟨g + 1, n, rfl, lv_sub hl [0, 1, 2, 3, 4] rfl, by omega, by omega, by first | exact hq.trans (sgFd_next (by omega) (by omega) (fun q => h42 (by rw [← q]; exact (sg_n (by omega)).symm))) | exact hq.trans (sgFd_skip (by omega) (by omega))⟩ (by omega)
    · refine lv_iload_n hx hb dX5_gram_40 rfl (lv_at hl 1 rfl) ?_
      refine lv_iload_n hx hb dX5_gram_41 rfl (lv_at hl 4 rfl) ?_
      refine ci_icmp_ne (X := ((n : Nat) : Int)) (Y := i.toInt) (tgt := 48) hx hb (sg_n (by omega)) rfl dX5_gram_42 rfl (fun h42 => ?_) (fun h42 => ?_)
      · refine lv_iinc (v := nI (n + 1)) hx hb dX5_gram_48 hl (k := 1) rfl (sg_inc _) (by decide) rfl (fun ls hl => ?_)
        have hl : lv_has ls 5 [(3, .int (nI (n + 1))), (4, .int (nI g)), (0, .ref z), (1, .int (nI k)), (2, .int i)] := hl
        refine lv_iinc (v := nI (g + 1)) hx hb dX5_gram_51 hl (k := 1) rfl (sg_inc _) (by decide) rfl (fun ls hl => ?_)
        have hl : lv_has ls 5 [(4, .int (nI (g + 1))), (3, .int (nI (n + 1))), (0, .ref z), (1, .int (nI k)), (2, .int i)] := hl
        refine lv_goto (tgt := 18) hx hb dX5_gram_54 rfl ?_
        exact ih18 _ _ ⟨g + 1, n + 1, rfl, lv_sub hl [0, 1, 2, 3, 4] rfl, by omega, by omega, by first | exact hq.trans (sgFd_next (by omega) (by omega) (fun q => h42 (by rw [← q]; exact (sg_n (by omega)).symm))) | exact hq.trans (sgFd_skip (by omega) (by omega))⟩ (by omega)
      · refine lv_iload hx hb dX5_gram_45 (lv_at hl 0 rfl) ?_
        exact W.iret hx hb hr (fun tZ ht hW => ⟨_, rfl, (by rw [hq]; exact (sgFd_hit (by omega) (by omega) (Int32.toInt_inj.mp (by have h9 := sg_n (n := n) (by omega); omega))).symm), ht⟩) (fun q h => by cases h) dX5_gram_47

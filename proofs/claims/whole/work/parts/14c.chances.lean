/-! SmoothedGrams, on -/
set_option maxHeartbeats 4000000 in
set_option maxRecDepth 100000 in
theorem c_top_bad (l : Launch) (D : va_G) (cI cO : ClassId) (z : Nat) (h : Nat) (q0 : Nat) (qe : Nat) (hc : Nat) (s : Nat) (s2 : Nat) (xa : Nat) (xb : Nat) (a : Int32) (b : Int32) (w : Int32) (hn : ¬ ((0 ≤ a.toInt ∧ a.toInt < 7) ∧ (0 ≤ b.toInt ∧ b.toInt < 7) ∧ 0 ≤ w.toInt ∧ w.toInt < 6)) : Met l yX5_top (.code yX5_top cX5_top 4 (some .long) :: sgT) ({ frames := 6, cells := 0, slots := 0, locals := 146 }) (sgPc D cI cO [.ref z, .int a, .int b, .int w] [(z, .inr (5, [.ref h, .ref q0, .ref qe, .ref hc, .ref s, .ref s2, .ref xa, .ref xb]))]) (vp_Sl (fun r => r = -1)) 0 0 (fun _ => False) := by
  refine Met.ofW (cc := cX5_top) (maxL := 4) (ret := (some .long)) (by decide) rfl ?_
  intro pZ eZ sZ mZ argsZ belowZ methZ cZ s₁ BZ hml hv
  obtain ⟨rfl, hP, hK⟩ := hv
  have hx := BZ.exec
  have hb := BZ.bytes
  have hr := BZ.returns
  have hts : ∀ wZ ∈ sgT, wZ.before ([.ref z, .int a, .int b, .int w] : List Value).toArray sZ = true := fun wZ h => atoms_spec (ws := (.code yX5_top cX5_top 4 (some .long) :: sgT)) BZ.pre wZ (List.mem_cons_of_mem _ h)
  have hown : sZ.vm.findClass RX5 = some mZ.cls := findClass_of_methodNamed BZ.named
  have hlocks := BZ.notSynchronized
  have hl := lv_entry ([.ref z, .int a, .int b, .int w]) (n := 4) (Nat.le_of_ble_eq_true rfl)
  rw [lg_entry_eq]
  generalize (lg_sl ([.ref z, .int a, .int b, .int w]) ++ List.replicate (4 - (lg_sl ([.ref z, .int a, .int b, .int w])).length) Slot.unset).toArray = ls at hl ⊢
  have hl : lv_has ls 4 [(0, .ref z), (1, .int a), (2, .int b), (3, .int w)] := hl
  refine lv_iload_n hx hb dX5_top_0 rfl (lv_at hl 1 rfl) ?_
  refine lv_iload_n hx hb dX5_top_1 rfl (lv_at hl 2 rfl) ?_
  refine lv_iload_n hx hb dX5_top_2 rfl (lv_at hl 3 rfl) ?_
  refine sg_callRi (va_runS (As := [.int a, .int b, .int w]) (rest := []) ⟨hx, hb, hml, hown, hts⟩ (c_X5_isAsked l D cI cO a b w) ⟨(sg_cB 3 hts mcX5_isAsked ml_X5_111 in_X5 rfl rfl (by decide +kernel) ⟨Nat.le_of_ble_eq_true rfl, Nat.le_of_ble_eq_true rfl⟩), hts _ st_X5_isAsked⟩ (sg_pS hK hP [] rfl) rfl rfl hl.1 rfl (lv_room (Nat.le_of_ble_eq_true rfl)) dX5_top_3 ⟨Nat.zero_le _, Nat.zero_le _⟩) ?_
  refine ci_bne (P := ((0 ≤ a.toInt ∧ a.toInt < 7) ∧ (0 ≤ b.toInt ∧ b.toInt < 7) ∧ 0 ≤ w.toInt ∧ w.toInt < 6)) (tgt := 13) hx hb dX5_top_6 rfl (fun h6 => by exfalso; omega) (fun h6 => ?_)
  refine lv_ldc2 (v := -1) hx hb hown (hts _ kl_X5_114) dX5_top_9 ?_
  exact W.lret hx hb hr (fun tZ ht hW => ⟨_, rfl, rfl, ht⟩) (fun q h => by cases h) dX5_top_12
set_option maxHeartbeats 4000000 in
set_option maxRecDepth 100000 in
theorem c_X5_top (l : Launch) (D : va_G) (cI cO : ClassId) (z : Nat) (h : Nat) (q0 : Nat) (qe : Nat) (hc : Nat) (s : Nat) (s2 : Nat) (xa : Nat) (xb : Nat) (q1 : Nat) (q2 : Nat) (q3 : Nat) (ord : Nat) (f1 : Nat → Int32) (f2 : Nat → Int32) (f3 : Nat → Int32) (fe : Nat → Int32) (x0 : Int64) (x1 : Int64) (rw : Nat → Nat → Nat → Nat → Nat) (e : Nat → Nat) (a : Nat) (b : Nat) (w : Nat) (hH : sgHold rw f1 f2 f3) (hF : sgFlat rw) (hB : sgBd rw) (ho : 1 ≤ ord ∧ ord ≤ 3) (hE : sgE e) (hfe : ∀ k, 1 ≤ k → k ≤ 3 → fe k = nI (e k)) (ha : a < 7) (hbb : b < 7) (hw : w < 6) : Met l yX5_top (.code yX5_top cX5_top 4 (some .long) :: sgT) ({ frames := 6, cells := 0, slots := 0, locals := 146 }) (sgWc D cI cO [.ref z, .int (nI a), .int (nI b), .int (nI w)] [(z, .inr (5, [.ref h, .ref q0, .ref qe, .ref hc, .ref s, .ref s2, .ref xa, .ref xb])), (q0, .inr (1, [.ref q1, .ref q2, .ref q3, .int (nI ord)])), (q1, .inl (cI, 7, .inl f1)), (q2, .inl (cI, 49, .inl f2)), (q3, .inl (cI, 343, .inl f3)), (qe, .inl (cI, 4, .inl fe)), (hc, .inr (0, [.long x0, .long x1]))]) (va_Ql (fun (r : Int64) (uZ : Unit) => r = lN (sgO rw ord e a b w)) (fun uZ t => va_P D vwCl [(z, .inr (5, [.ref h, .ref q0, .ref qe, .ref hc, .ref s, .ref s2, .ref xa, .ref xb])), (q0, .inr (1, [.ref q1, .ref q2, .ref q3, .int (nI ord)])), (q1, .inl (cI, 7, .inl f1)), (q2, .inl (cI, 49, .inl f2)), (q3, .inl (cI, 343, .inl f3)), (qe, .inl (cI, 4, .inl fe)), (hc, .inr (0, [.long (lN (sgO rw ord e a b w)), .long (lN (sgU rw ord e a b w))]))] t.heap) (xA [(z, .inr (5, [.ref h, .ref q0, .ref qe, .ref hc, .ref s, .ref s2, .ref xa, .ref xb])), (q0, .inr (1, [.ref q1, .ref q2, .ref q3, .int (nI ord)])), (q1, .inl (cI, 7, .inl f1)), (q2, .inl (cI, 49, .inl f2)), (q3, .inl (cI, 343, .inl f3)), (qe, .inl (cI, 4, .inl fe)), (hc, .inr (0, [.long x0, .long x1]))])) 0 0 (xA [(z, .inr (5, [.ref h, .ref q0, .ref qe, .ref hc, .ref s, .ref s2, .ref xa, .ref xb])), (q0, .inr (1, [.ref q1, .ref q2, .ref q3, .int (nI ord)])), (q1, .inl (cI, 7, .inl f1)), (q2, .inl (cI, 49, .inl f2)), (q3, .inl (cI, 343, .inl f3)), (qe, .inl (cI, 4, .inl fe)), (hc, .inr (0, [.long x0, .long x1]))]) := by
  refine Met.ofW (cc := cX5_top) (maxL := 4) (ret := (some .long)) (by decide) rfl ?_
  intro pZ eZ sZ mZ argsZ belowZ methZ cZ s₁ BZ hml hv
  obtain ⟨rfl, hP, hK, hD0⟩ := hv
  have hx := BZ.exec
  have hb := BZ.bytes
  have hr := BZ.returns
  have hts : ∀ wZ ∈ sgT, wZ.before ([.ref z, .int (nI a), .int (nI b), .int (nI w)] : List Value).toArray sZ = true := fun wZ h => atoms_spec (ws := (.code yX5_top cX5_top 4 (some .long) :: sgT)) BZ.pre wZ (List.mem_cons_of_mem _ h)
  have hown : sZ.vm.findClass RX5 = some mZ.cls := findClass_of_methodNamed BZ.named
  have hlocks := BZ.notSynchronized
  have hD : va_D (xA [(z, .inr (5, [.ref h, .ref q0, .ref qe, .ref hc, .ref s, .ref s2, .ref xa, .ref xb])), (q0, .inr (1, [.ref q1, .ref q2, .ref q3, .int (nI ord)])), (q1, .inl (cI, 7, .inl f1)), (q2, .inl (cI, 49, .inl f2)), (q3, .inl (cI, 343, .inl f3)), (qe, .inl (cI, 4, .inl fe)), (hc, .inr (0, [.long x0, .long x1]))]) [(z, .inr (5, [.ref h, .ref q0, .ref qe, .ref hc, .ref s, .ref s2, .ref xa, .ref xb])), (q0, .inr (1, [.ref q1, .ref q2, .ref q3, .int (nI ord)])), (q1, .inl (cI, 7, .inl f1)), (q2, .inl (cI, 49, .inl f2)), (q3, .inl (cI, 343, .inl f3)), (qe, .inl (cI, 4, .inl fe)), (hc, .inr (0, [.long x0, .long x1]))] := ⟨hD0.1, fun k q h => ⟨k, q.2, h⟩⟩
  generalize hAe : xA [(z, .inr (5, [.ref h, .ref q0, .ref qe, .ref hc, .ref s, .ref s2, .ref xa, .ref xb])), (q0, .inr (1, [.ref q1, .ref q2, .ref q3, .int (nI ord)])), (q1, .inl (cI, 7, .inl f1)), (q2, .inl (cI, 49, .inl f2)), (q3, .inl (cI, 343, .inl f3)), (qe, .inl (cI, 4, .inl fe)), (hc, .inr (0, [.long x0, .long x1]))] = A at hD ⊢
  have hS : va_S A sZ.heap sZ.heap [] := va_S.rf
  have hl := lv_entry ([.ref z, .int (nI a), .int (nI b), .int (nI w)]) (n := 4) (Nat.le_of_ble_eq_true rfl)
  rw [lg_entry_eq]
  generalize (lg_sl ([.ref z, .int (nI a), .int (nI b), .int (nI w)]) ++ List.replicate (4 - (lg_sl ([.ref z, .int (nI a), .int (nI b), .int (nI w)])).length) Slot.unset).toArray = ls at hl ⊢
  have hl : lv_has ls 4 [(0, .ref z), (1, .int (nI a)), (2, .int (nI b)), (3, .int (nI w))] := hl
  have haI := sg_n (n := a) (by omega)
  have hbI := sg_n (n := b) (by omega)
  have hwI := sg_n (n := w) (by omega)
  have hP : va_P D vwCl [(z, .inr (5, [.ref h, .ref q0, .ref qe, .ref hc, .ref s, .ref s2, .ref xa, .ref xb])), (q0, .inr (1, [.ref q1, .ref q2, .ref q3, .int (nI ord)])), (q1, .inl (cI, 7, .inl f1)), (q2, .inl (cI, 49, .inl f2)), (q3, .inl (cI, 343, .inl f3)), (qe, .inl (cI, 4, .inl fe)), (hc, .inr (0, [.long x0, .long x1]))] sZ.heap := hP
  refine lv_iload_n hx hb dX5_top_0 rfl (lv_at hl 1 rfl) ?_
  refine lv_iload_n hx hb dX5_top_1 rfl (lv_at hl 2 rfl) ?_
  refine lv_iload_n hx hb dX5_top_2 rfl (lv_at hl 3 rfl) ?_
  refine sg_callRi (va_runS (As := [.int (nI a), .int (nI b), .int (nI w)]) (rest := []) ⟨hx, hb, hml, hown, hts⟩ (c_X5_isAsked l D cI cO (nI a) (nI b) (nI w)) ⟨(sg_cB 3 hts mcX5_isAsked ml_X5_111 in_X5 rfl rfl (by decide +kernel) ⟨Nat.le_of_ble_eq_true rfl, Nat.le_of_ble_eq_true rfl⟩), hts _ st_X5_isAsked⟩ (sg_pS hK hP [] rfl) rfl rfl hl.1 rfl (lv_room (Nat.le_of_ble_eq_true rfl)) dX5_top_3 ⟨Nat.zero_le _, Nat.zero_le _⟩) ?_
  refine ci_bne (P := ((0 ≤ (nI a).toInt ∧ (nI a).toInt < 7) ∧ (0 ≤ (nI b).toInt ∧ (nI b).toInt < 7) ∧ 0 ≤ (nI w).toInt ∧ (nI w).toInt < 6)) (tgt := 13) hx hb dX5_top_6 rfl (fun h6 => ?_) (fun h6 => by exfalso; omega)
  refine lv_aload_n hx hb dX5_top_13 rfl (lv_at hl 0 rfl) ?_
  refine va_get (D := D) (ci := 5) (v := .ref hc) (C := RX5) (T := TX5) (N := 8) hx hb hts hinX5 hown hK.1 hP 0 rfl rfl 3 (by decide) (hts _ fl_X5_30) (fun _ h9 => h9) rfl dX5_top_14 ?_
  refine lv_aload_n hx hb dX5_top_17 rfl (lv_at hl 0 rfl) ?_
  refine va_get (D := D) (ci := 5) (v := .ref q0) (C := RX5) (T := TX5) (N := 8) hx hb hts hinX5 hown hK.1 hP 0 rfl rfl 1 (by decide) (hts _ fl_X5_19) (fun _ h9 => h9) rfl dX5_top_18 ?_
  refine lv_aload_n hx hb dX5_top_21 rfl (lv_at hl 0 rfl) ?_
  refine va_get (D := D) (ci := 5) (v := .ref qe) (C := RX5) (T := TX5) (N := 8) hx hb hts hinX5 hown hK.1 hP 0 rfl rfl 2 (by decide) (hts _ fl_X5_23) (fun _ h9 => h9) rfl dX5_top_22 ?_
  refine lv_iload_n hx hb dX5_top_25 rfl (lv_at hl 1 rfl) ?_
  refine lv_iload_n hx hb dX5_top_26 rfl (lv_at hl 2 rfl) ?_
  refine lv_iload_n hx hb dX5_top_27 rfl (lv_at hl 3 rfl) ?_
  refine sg_callWv (fun _ => [(z, .inr (5, [.ref h, .ref q0, .ref qe, .ref hc, .ref s, .ref s2, .ref xa, .ref xb])), (q0, .inr (1, [.ref q1, .ref q2, .ref q3, .int (nI ord)])), (q1, .inl (cI, 7, .inl f1)), (q2, .inl (cI, 49, .inl f2)), (q3, .inl (cI, 343, .inl f3)), (qe, .inl (cI, 4, .inl fe)), (hc, .inr (0, [.long (lN (sgO rw ord e a b w)), .long (lN (sgU rw ord e a b w))]))]) [(false, 0), (true, 1), (true, 2), (true, 3), (true, 4), (true, 5), (true, 0)] (va_runV (As := [.ref q0, .ref qe, .int (nI a), .int (nI b), .int (nI w)]) (rest := []) (C := RX0) ⟨hx, hb, hml, hown, hts⟩ (c_X0_find l D cI cO hc x0 x1 q0 q1 q2 q3 ord f1 f2 f3 qe fe rw e a b w hH hF hB (by omega) hE hfe (by omega) (by omega) (by omega)) ⟨(sg_cB 5 hts mcX0_find ml_X5_116 in_X0 rfl rfl (by decide +kernel) ⟨Nat.le_of_ble_eq_true rfl, Nat.le_of_ble_eq_true rfl⟩), hts _ im_X0_find, hts _ se_X0_find⟩ (sg_wV (q0 := 6) hK hP hD [6, 1, 2, 3, 4, 5] (by decide) rfl rfl rfl rfl) rfl rfl hl.1 rfl (lv_room (Nat.le_of_ble_eq_true rfl)) dX5_top_28 ⟨Nat.zero_le _, Nat.zero_le _⟩) hP hD hS [6, 1, 2, 3, 4, 5] rfl (fun _ => rfl) (by decide) (fun _ => rfl) (fun u28 H locs hw28 hP hD hS => ?_)
  refine lv_aload_n hx hb dX5_top_31 rfl (lv_at hl 0 rfl) ?_
  refine va_get (D := D) (ci := 5) (v := .ref hc) (C := RX5) (T := TX5) (N := 8) hx hb hts hinX5 hown hK.1 hP 0 rfl rfl 3 (by decide) (hts _ fl_X5_30) (fun _ h9 => h9) rfl dX5_top_32 ?_
  refine va_get (D := D) (ci := 0) (v := .long (lN (sgO rw ord e a b w))) (C := RX0) (T := TX0) (N := 2) hx hb hts hinX0 hown hK.1 hP 6 rfl rfl 0 (by decide) (hts _ fl_X5_120) (fun _ h9 => h9) rfl dX5_top_35 ?_
  exact W.lret hx hb hr (fun tZ ht hW => ⟨⟨_, (), rfl, rfl, by show va_P D vwCl _ tZ.heap; rw [ht]; exact hP⟩, hS.F ht⟩) hS.2.2 dX5_top_38
set_option maxHeartbeats 4000000 in
set_option maxRecDepth 100000 in
theorem c_bottom_bad (l : Launch) (D : va_G) (cI cO : ClassId) (z : Nat) (h : Nat) (q0 : Nat) (qe : Nat) (hc : Nat) (s : Nat) (s2 : Nat) (xa : Nat) (xb : Nat) (a : Int32) (b : Int32) (w : Int32) (hn : ¬ ((0 ≤ a.toInt ∧ a.toInt < 7) ∧ (0 ≤ b.toInt ∧ b.toInt < 7) ∧ 0 ≤ w.toInt ∧ w.toInt < 6)) : Met l yX5_bottom (.code yX5_bottom cX5_bottom 4 (some .long) :: sgT) ({ frames := 6, cells := 0, slots := 0, locals := 146 }) (sgPc D cI cO [.ref z, .int a, .int b, .int w] [(z, .inr (5, [.ref h, .ref q0, .ref qe, .ref hc, .ref s, .ref s2, .ref xa, .ref xb]))]) (vp_Sl (fun r => r = -1)) 0 0 (fun _ => False) := by
  refine Met.ofW (cc := cX5_bottom) (maxL := 4) (ret := (some .long)) (by decide) rfl ?_
  intro pZ eZ sZ mZ argsZ belowZ methZ cZ s₁ BZ hml hv
  obtain ⟨rfl, hP, hK⟩ := hv
  have hx := BZ.exec
  have hb := BZ.bytes
  have hr := BZ.returns
  have hts : ∀ wZ ∈ sgT, wZ.before ([.ref z, .int a, .int b, .int w] : List Value).toArray sZ = true := fun wZ h => atoms_spec (ws := (.code yX5_bottom cX5_bottom 4 (some .long) :: sgT)) BZ.pre wZ (List.mem_cons_of_mem _ h)
  have hown : sZ.vm.findClass RX5 = some mZ.cls := findClass_of_methodNamed BZ.named
  have hlocks := BZ.notSynchronized
  have hl := lv_entry ([.ref z, .int a, .int b, .int w]) (n := 4) (Nat.le_of_ble_eq_true rfl)
  rw [lg_entry_eq]
  generalize (lg_sl ([.ref z, .int a, .int b, .int w]) ++ List.replicate (4 - (lg_sl ([.ref z, .int a, .int b, .int w])).length) Slot.unset).toArray = ls at hl ⊢
  have hl : lv_has ls 4 [(0, .ref z), (1, .int a), (2, .int b), (3, .int w)] := hl
  refine lv_iload_n hx hb dX5_bottom_0 rfl (lv_at hl 1 rfl) ?_
  refine lv_iload_n hx hb dX5_bottom_1 rfl (lv_at hl 2 rfl) ?_
  refine lv_iload_n hx hb dX5_bottom_2 rfl (lv_at hl 3 rfl) ?_
  refine sg_callRi (va_runS (As := [.int a, .int b, .int w]) (rest := []) ⟨hx, hb, hml, hown, hts⟩ (c_X5_isAsked l D cI cO a b w) ⟨(sg_cB 3 hts mcX5_isAsked ml_X5_111 in_X5 rfl rfl (by decide +kernel) ⟨Nat.le_of_ble_eq_true rfl, Nat.le_of_ble_eq_true rfl⟩), hts _ st_X5_isAsked⟩ (sg_pS hK hP [] rfl) rfl rfl hl.1 rfl (lv_room (Nat.le_of_ble_eq_true rfl)) dX5_bottom_3 ⟨Nat.zero_le _, Nat.zero_le _⟩) ?_
  refine ci_bne (P := ((0 ≤ a.toInt ∧ a.toInt < 7) ∧ (0 ≤ b.toInt ∧ b.toInt < 7) ∧ 0 ≤ w.toInt ∧ w.toInt < 6)) (tgt := 13) hx hb dX5_bottom_6 rfl (fun h6 => by exfalso; omega) (fun h6 => ?_)
  refine lv_ldc2 (v := -1) hx hb hown (hts _ kl_X5_114) dX5_bottom_9 ?_
  exact W.lret hx hb hr (fun tZ ht hW => ⟨_, rfl, rfl, ht⟩) (fun q h => by cases h) dX5_bottom_12
set_option maxHeartbeats 4000000 in
set_option maxRecDepth 100000 in
theorem c_X5_bottom (l : Launch) (D : va_G) (cI cO : ClassId) (z : Nat) (h : Nat) (q0 : Nat) (qe : Nat) (hc : Nat) (s : Nat) (s2 : Nat) (xa : Nat) (xb : Nat) (q1 : Nat) (q2 : Nat) (q3 : Nat) (ord : Nat) (f1 : Nat → Int32) (f2 : Nat → Int32) (f3 : Nat → Int32) (fe : Nat → Int32) (x0 : Int64) (x1 : Int64) (rw : Nat → Nat → Nat → Nat → Nat) (e : Nat → Nat) (a : Nat) (b : Nat) (w : Nat) (hH : sgHold rw f1 f2 f3) (hF : sgFlat rw) (hB : sgBd rw) (ho : 1 ≤ ord ∧ ord ≤ 3) (hE : sgE e) (hfe : ∀ k, 1 ≤ k → k ≤ 3 → fe k = nI (e k)) (ha : a < 7) (hbb : b < 7) (hw : w < 6) : Met l yX5_bottom (.code yX5_bottom cX5_bottom 4 (some .long) :: sgT) ({ frames := 6, cells := 0, slots := 0, locals := 146 }) (sgWc D cI cO [.ref z, .int (nI a), .int (nI b), .int (nI w)] [(z, .inr (5, [.ref h, .ref q0, .ref qe, .ref hc, .ref s, .ref s2, .ref xa, .ref xb])), (q0, .inr (1, [.ref q1, .ref q2, .ref q3, .int (nI ord)])), (q1, .inl (cI, 7, .inl f1)), (q2, .inl (cI, 49, .inl f2)), (q3, .inl (cI, 343, .inl f3)), (qe, .inl (cI, 4, .inl fe)), (hc, .inr (0, [.long x0, .long x1]))]) (va_Ql (fun (r : Int64) (uZ : Unit) => r = lN (sgU rw ord e a b w)) (fun uZ t => va_P D vwCl [(z, .inr (5, [.ref h, .ref q0, .ref qe, .ref hc, .ref s, .ref s2, .ref xa, .ref xb])), (q0, .inr (1, [.ref q1, .ref q2, .ref q3, .int (nI ord)])), (q1, .inl (cI, 7, .inl f1)), (q2, .inl (cI, 49, .inl f2)), (q3, .inl (cI, 343, .inl f3)), (qe, .inl (cI, 4, .inl fe)), (hc, .inr (0, [.long (lN (sgO rw ord e a b w)), .long (lN (sgU rw ord e a b w))]))] t.heap) (xA [(z, .inr (5, [.ref h, .ref q0, .ref qe, .ref hc, .ref s, .ref s2, .ref xa, .ref xb])), (q0, .inr (1, [.ref q1, .ref q2, .ref q3, .int (nI ord)])), (q1, .inl (cI, 7, .inl f1)), (q2, .inl (cI, 49, .inl f2)), (q3, .inl (cI, 343, .inl f3)), (qe, .inl (cI, 4, .inl fe)), (hc, .inr (0, [.long x0, .long x1]))])) 0 0 (xA [(z, .inr (5, [.ref h, .ref q0, .ref qe, .ref hc, .ref s, .ref s2, .ref xa, .ref xb])), (q0, .inr (1, [.ref q1, .ref q2, .ref q3, .int (nI ord)])), (q1, .inl (cI, 7, .inl f1)), (q2, .inl (cI, 49, .inl f2)), (q3, .inl (cI, 343, .inl f3)), (qe, .inl (cI, 4, .inl fe)), (hc, .inr (0, [.long x0, .long x1]))]) := by
  refine Met.ofW (cc := cX5_bottom) (maxL := 4) (ret := (some .long)) (by decide) rfl ?_
  intro pZ eZ sZ mZ argsZ belowZ methZ cZ s₁ BZ hml hv
  obtain ⟨rfl, hP, hK, hD0⟩ := hv
  have hx := BZ.exec
  have hb := BZ.bytes
  have hr := BZ.returns
  have hts : ∀ wZ ∈ sgT, wZ.before ([.ref z, .int (nI a), .int (nI b), .int (nI w)] : List Value).toArray sZ = true := fun wZ h => atoms_spec (ws := (.code yX5_bottom cX5_bottom 4 (some .long) :: sgT)) BZ.pre wZ (List.mem_cons_of_mem _ h)
  have hown : sZ.vm.findClass RX5 = some mZ.cls := findClass_of_methodNamed BZ.named
  have hlocks := BZ.notSynchronized
  have hD : va_D (xA [(z, .inr (5, [.ref h, .ref q0, .ref qe, .ref hc, .ref s, .ref s2, .ref xa, .ref xb])), (q0, .inr (1, [.ref q1, .ref q2, .ref q3, .int (nI ord)])), (q1, .inl (cI, 7, .inl f1)), (q2, .inl (cI, 49, .inl f2)), (q3, .inl (cI, 343, .inl f3)), (qe, .inl (cI, 4, .inl fe)), (hc, .inr (0, [.long x0, .long x1]))]) [(z, .inr (5, [.ref h, .ref q0, .ref qe, .ref hc, .ref s, .ref s2, .ref xa, .ref xb])), (q0, .inr (1, [.ref q1, .ref q2, .ref q3, .int (nI ord)])), (q1, .inl (cI, 7, .inl f1)), (q2, .inl (cI, 49, .inl f2)), (q3, .inl (cI, 343, .inl f3)), (qe, .inl (cI, 4, .inl fe)), (hc, .inr (0, [.long x0, .long x1]))] := ⟨hD0.1, fun k q h => ⟨k, q.2, h⟩⟩
  generalize hAe : xA [(z, .inr (5, [.ref h, .ref q0, .ref qe, .ref hc, .ref s, .ref s2, .ref xa, .ref xb])), (q0, .inr (1, [.ref q1, .ref q2, .ref q3, .int (nI ord)])), (q1, .inl (cI, 7, .inl f1)), (q2, .inl (cI, 49, .inl f2)), (q3, .inl (cI, 343, .inl f3)), (qe, .inl (cI, 4, .inl fe)), (hc, .inr (0, [.long x0, .long x1]))] = A at hD ⊢
  have hS : va_S A sZ.heap sZ.heap [] := va_S.rf
  have hl := lv_entry ([.ref z, .int (nI a), .int (nI b), .int (nI w)]) (n := 4) (Nat.le_of_ble_eq_true rfl)
  rw [lg_entry_eq]
  generalize (lg_sl ([.ref z, .int (nI a), .int (nI b), .int (nI w)]) ++ List.replicate (4 - (lg_sl ([.ref z, .int (nI a), .int (nI b), .int (nI w)])).length) Slot.unset).toArray = ls at hl ⊢
  have hl : lv_has ls 4 [(0, .ref z), (1, .int (nI a)), (2, .int (nI b)), (3, .int (nI w))] := hl
  have haI := sg_n (n := a) (by omega)
  have hbI := sg_n (n := b) (by omega)
  have hwI := sg_n (n := w) (by omega)
  have hP : va_P D vwCl [(z, .inr (5, [.ref h, .ref q0, .ref qe, .ref hc, .ref s, .ref s2, .ref xa, .ref xb])), (q0, .inr (1, [.ref q1, .ref q2, .ref q3, .int (nI ord)])), (q1, .inl (cI, 7, .inl f1)), (q2, .inl (cI, 49, .inl f2)), (q3, .inl (cI, 343, .inl f3)), (qe, .inl (cI, 4, .inl fe)), (hc, .inr (0, [.long x0, .long x1]))] sZ.heap := hP
  refine lv_iload_n hx hb dX5_bottom_0 rfl (lv_at hl 1 rfl) ?_
  refine lv_iload_n hx hb dX5_bottom_1 rfl (lv_at hl 2 rfl) ?_
  refine lv_iload_n hx hb dX5_bottom_2 rfl (lv_at hl 3 rfl) ?_
  refine sg_callRi (va_runS (As := [.int (nI a), .int (nI b), .int (nI w)]) (rest := []) ⟨hx, hb, hml, hown, hts⟩ (c_X5_isAsked l D cI cO (nI a) (nI b) (nI w)) ⟨(sg_cB 3 hts mcX5_isAsked ml_X5_111 in_X5 rfl rfl (by decide +kernel) ⟨Nat.le_of_ble_eq_true rfl, Nat.le_of_ble_eq_true rfl⟩), hts _ st_X5_isAsked⟩ (sg_pS hK hP [] rfl) rfl rfl hl.1 rfl (lv_room (Nat.le_of_ble_eq_true rfl)) dX5_bottom_3 ⟨Nat.zero_le _, Nat.zero_le _⟩) ?_
  refine ci_bne (P := ((0 ≤ (nI a).toInt ∧ (nI a).toInt < 7) ∧ (0 ≤ (nI b).toInt ∧ (nI b).toInt < 7) ∧ 0 ≤ (nI w).toInt ∧ (nI w).toInt < 6)) (tgt := 13) hx hb dX5_bottom_6 rfl (fun h6 => ?_) (fun h6 => by exfalso; omega)
  refine lv_aload_n hx hb dX5_bottom_13 rfl (lv_at hl 0 rfl) ?_
  refine va_get (D := D) (ci := 5) (v := .ref hc) (C := RX5) (T := TX5) (N := 8) hx hb hts hinX5 hown hK.1 hP 0 rfl rfl 3 (by decide) (hts _ fl_X5_30) (fun _ h9 => h9) rfl dX5_bottom_14 ?_
  refine lv_aload_n hx hb dX5_bottom_17 rfl (lv_at hl 0 rfl) ?_
  refine va_get (D := D) (ci := 5) (v := .ref q0) (C := RX5) (T := TX5) (N := 8) hx hb hts hinX5 hown hK.1 hP 0 rfl rfl 1 (by decide) (hts _ fl_X5_19) (fun _ h9 => h9) rfl dX5_bottom_18 ?_
  refine lv_aload_n hx hb dX5_bottom_21 rfl (lv_at hl 0 rfl) ?_
  refine va_get (D := D) (ci := 5) (v := .ref qe) (C := RX5) (T := TX5) (N := 8) hx hb hts hinX5 hown hK.1 hP 0 rfl rfl 2 (by decide) (hts _ fl_X5_23) (fun _ h9 => h9) rfl dX5_bottom_22 ?_
  refine lv_iload_n hx hb dX5_bottom_25 rfl (lv_at hl 1 rfl) ?_
  refine lv_iload_n hx hb dX5_bottom_26 rfl (lv_at hl 2 rfl) ?_
  refine lv_iload_n hx hb dX5_bottom_27 rfl (lv_at hl 3 rfl) ?_
  refine sg_callWv (fun _ => [(z, .inr (5, [.ref h, .ref q0, .ref qe, .ref hc, .ref s, .ref s2, .ref xa, .ref xb])), (q0, .inr (1, [.ref q1, .ref q2, .ref q3, .int (nI ord)])), (q1, .inl (cI, 7, .inl f1)), (q2, .inl (cI, 49, .inl f2)), (q3, .inl (cI, 343, .inl f3)), (qe, .inl (cI, 4, .inl fe)), (hc, .inr (0, [.long (lN (sgO rw ord e a b w)), .long (lN (sgU rw ord e a b w))]))]) [(false, 0), (true, 1), (true, 2), (true, 3), (true, 4), (true, 5), (true, 0)] (va_runV (As := [.ref q0, .ref qe, .int (nI a), .int (nI b), .int (nI w)]) (rest := []) (C := RX0) ⟨hx, hb, hml, hown, hts⟩ (c_X0_find l D cI cO hc x0 x1 q0 q1 q2 q3 ord f1 f2 f3 qe fe rw e a b w hH hF hB (by omega) hE hfe (by omega) (by omega) (by omega)) ⟨(sg_cB 5 hts mcX0_find ml_X5_116 in_X0 rfl rfl (by decide +kernel) ⟨Nat.le_of_ble_eq_true rfl, Nat.le_of_ble_eq_true rfl⟩), hts _ im_X0_find, hts _ se_X0_find⟩ (sg_wV (q0 := 6) hK hP hD [6, 1, 2, 3, 4, 5] (by decide) rfl rfl rfl rfl) rfl rfl hl.1 rfl (lv_room (Nat.le_of_ble_eq_true rfl)) dX5_bottom_28 ⟨Nat.zero_le _, Nat.zero_le _⟩) hP hD hS [6, 1, 2, 3, 4, 5] rfl (fun _ => rfl) (by decide) (fun _ => rfl) (fun u28 H locs hw28 hP hD hS => ?_)
  refine lv_aload_n hx hb dX5_bottom_31 rfl (lv_at hl 0 rfl) ?_
  refine va_get (D := D) (ci := 5) (v := .ref hc) (C := RX5) (T := TX5) (N := 8) hx hb hts hinX5 hown hK.1 hP 0 rfl rfl 3 (by decide) (hts _ fl_X5_30) (fun _ h9 => h9) rfl dX5_bottom_32 ?_
  refine va_get (D := D) (ci := 0) (v := .long (lN (sgU rw ord e a b w))) (C := RX0) (T := TX0) (N := 2) hx hb hts hinX0 hown hK.1 hP 6 rfl rfl 1 (by decide) (hts _ fl_X5_124) (fun _ h9 => h9) rfl dX5_bottom_35 ?_
  exact W.lret hx hb hr (fun tZ ht hW => ⟨⟨_, (), rfl, rfl, by show va_P D vwCl _ tZ.heap; rw [ht]; exact hP⟩, hS.F ht⟩) hS.2.2 dX5_bottom_38
set_option maxHeartbeats 4000000 in
set_option maxRecDepth 100000 in
theorem c_likeliest_bad (l : Launch) (D : va_G) (cI cO : ClassId) (z : Nat) (h : Nat) (q0 : Nat) (qe : Nat) (hc : Nat) (s : Nat) (s2 : Nat) (xa : Nat) (xb : Nat) (a : Int32) (b : Int32) (hn : ¬ ((0 ≤ a.toInt ∧ a.toInt < 7) ∧ 0 ≤ b.toInt ∧ b.toInt < 7)) : Met l yX5_likeliest (.code yX5_likeliest cX5_likeliest 9 (some .int) :: sgT) ({ frames := 6, cells := 0, slots := 0, locals := 146 }) (sgPc D cI cO [.ref z, .int a, .int b] [(z, .inr (5, [.ref h, .ref q0, .ref qe, .ref hc, .ref s, .ref s2, .ref xa, .ref xb]))]) (vp_Si (fun r => r = -1)) 0 0 (fun _ => False) := by
  refine Met.ofW (cc := cX5_likeliest) (maxL := 9) (ret := (some .int)) (by decide) rfl ?_
  intro pZ eZ sZ mZ argsZ belowZ methZ cZ s₁ BZ hml hv
  obtain ⟨rfl, hP, hK⟩ := hv
  have hx := BZ.exec
  have hb := BZ.bytes
  have hr := BZ.returns
  have hts : ∀ wZ ∈ sgT, wZ.before ([.ref z, .int a, .int b] : List Value).toArray sZ = true := fun wZ h => atoms_spec (ws := (.code yX5_likeliest cX5_likeliest 9 (some .int) :: sgT)) BZ.pre wZ (List.mem_cons_of_mem _ h)
  have hown : sZ.vm.findClass RX5 = some mZ.cls := findClass_of_methodNamed BZ.named
  have hlocks := BZ.notSynchronized
  have hl := lv_entry ([.ref z, .int a, .int b]) (n := 9) (Nat.le_of_ble_eq_true rfl)
  rw [lg_entry_eq]
  generalize (lg_sl ([.ref z, .int a, .int b]) ++ List.replicate (9 - (lg_sl ([.ref z, .int a, .int b])).length) Slot.unset).toArray = ls at hl ⊢
  have hl : lv_has ls 9 [(0, .ref z), (1, .int a), (2, .int b)] := hl
  refine lv_iload_n hx hb dX5_likeliest_0 rfl (lv_at hl 1 rfl) ?_
  refine sg_callRi (va_runS (As := [.int a]) (rest := []) ⟨hx, hb, hml, hown, hts⟩ (c_X5_isSymbol l D cI cO a) ⟨(sg_cB 1 hts mcX5_isSymbol ml_X5_90 in_X5 rfl rfl (by decide +kernel) ⟨Nat.le_of_ble_eq_true rfl, Nat.le_of_ble_eq_true rfl⟩), hts _ st_X5_isSymbol⟩ (sg_pS hK hP [] rfl) rfl rfl hl.1 rfl (lv_room (Nat.le_of_ble_eq_true rfl)) dX5_likeliest_1 ⟨Nat.zero_le _, Nat.zero_le _⟩) ?_
  refine ci_beq (P := (0 ≤ a.toInt ∧ a.toInt < 7)) (tgt := 14) hx hb dX5_likeliest_4 rfl (fun h4 => ?_) (fun h4 => ?_)
  · refine lv_iconst (v := -1) hx hb dX5_likeliest_14 (by decide) ?_
    exact W.iret hx hb hr (fun tZ ht hW => ⟨_, rfl, rfl, ht⟩) (fun q h => by cases h) dX5_likeliest_15
  · refine lv_iload_n hx hb dX5_likeliest_7 rfl (lv_at hl 2 rfl) ?_
    refine sg_callRi (va_runS (As := [.int b]) (rest := []) ⟨hx, hb, hml, hown, hts⟩ (c_X5_isSymbol l D cI cO b) ⟨(sg_cB 1 hts mcX5_isSymbol ml_X5_90 in_X5 rfl rfl (by decide +kernel) ⟨Nat.le_of_ble_eq_true rfl, Nat.le_of_ble_eq_true rfl⟩), hts _ st_X5_isSymbol⟩ (sg_pS hK hP [] rfl) rfl rfl hl.1 rfl (lv_room (Nat.le_of_ble_eq_true rfl)) dX5_likeliest_8 ⟨Nat.zero_le _, Nat.zero_le _⟩) ?_
    refine ci_bne (P := (0 ≤ b.toInt ∧ b.toInt < 7)) (tgt := 16) hx hb dX5_likeliest_11 rfl (fun h11 => by exfalso; omega) (fun h11 => ?_)
    refine lv_iconst (v := -1) hx hb dX5_likeliest_14 (by decide) ?_
    exact W.iret hx hb hr (fun tZ ht hW => ⟨_, rfl, rfl, ht⟩) (fun q h => by cases h) dX5_likeliest_15
set_option maxHeartbeats 4000000 in
set_option maxRecDepth 100000 in
theorem c_X5_likeliest (l : Launch) (D : va_G) (cI cO : ClassId) (z : Nat) (h : Nat) (q0 : Nat) (qe : Nat) (hc : Nat) (s : Nat) (s2 : Nat) (xa : Nat) (xb : Nat) (q1 : Nat) (q2 : Nat) (q3 : Nat) (ord : Nat) (f1 : Nat → Int32) (f2 : Nat → Int32) (f3 : Nat → Int32) (fe : Nat → Int32) (x0 : Int64) (x1 : Int64) (rw : Nat → Nat → Nat → Nat → Nat) (e : Nat → Nat) (a : Nat) (b : Nat) (hH : sgHold rw f1 f2 f3) (hF : sgFlat rw) (hB : sgBd rw) (ho : 1 ≤ ord ∧ ord ≤ 3) (hE : sgE e) (hfe : ∀ k, 1 ≤ k → k ≤ 3 → fe k = nI (e k)) (ha : a < 7) (hbb : b < 7) : Met l yX5_likeliest (.code yX5_likeliest cX5_likeliest 9 (some .int) :: sgT) ({ frames := 6, cells := 0, slots := 0, locals := 146 }) (sgWc D cI cO [.ref z, .int (nI a), .int (nI b)] [(z, .inr (5, [.ref h, .ref q0, .ref qe, .ref hc, .ref s, .ref s2, .ref xa, .ref xb])), (q0, .inr (1, [.ref q1, .ref q2, .ref q3, .int (nI ord)])), (q1, .inl (cI, 7, .inl f1)), (q2, .inl (cI, 49, .inl f2)), (q3, .inl (cI, 343, .inl f3)), (qe, .inl (cI, 4, .inl fe)), (hc, .inr (0, [.long x0, .long x1]))]) (va_Qi (fun (r : Int32) (uZ : Int64 × Int64) => r = nI (sgLk (fun w => sgO rw ord e a b w) (fun w => sgU rw ord e a b w) 6 0 0 0 1)) (fun uZ t => va_P D vwCl [(z, .inr (5, [.ref h, .ref q0, .ref qe, .ref hc, .ref s, .ref s2, .ref xa, .ref xb])), (q0, .inr (1, [.ref q1, .ref q2, .ref q3, .int (nI ord)])), (q1, .inl (cI, 7, .inl f1)), (q2, .inl (cI, 49, .inl f2)), (q3, .inl (cI, 343, .inl f3)), (qe, .inl (cI, 4, .inl fe)), (hc, .inr (0, [.long uZ.1, .long uZ.2]))] t.heap) (xA [(z, .inr (5, [.ref h, .ref q0, .ref qe, .ref hc, .ref s, .ref s2, .ref xa, .ref xb])), (q0, .inr (1, [.ref q1, .ref q2, .ref q3, .int (nI ord)])), (q1, .inl (cI, 7, .inl f1)), (q2, .inl (cI, 49, .inl f2)), (q3, .inl (cI, 343, .inl f3)), (qe, .inl (cI, 4, .inl fe)), (hc, .inr (0, [.long x0, .long x1]))])) 0 0 (xA [(z, .inr (5, [.ref h, .ref q0, .ref qe, .ref hc, .ref s, .ref s2, .ref xa, .ref xb])), (q0, .inr (1, [.ref q1, .ref q2, .ref q3, .int (nI ord)])), (q1, .inl (cI, 7, .inl f1)), (q2, .inl (cI, 49, .inl f2)), (q3, .inl (cI, 343, .inl f3)), (qe, .inl (cI, 4, .inl fe)), (hc, .inr (0, [.long x0, .long x1]))]) := by
  refine Met.ofW (cc := cX5_likeliest) (maxL := 9) (ret := (some .int)) (by decide) rfl ?_
  intro pZ eZ sZ mZ argsZ belowZ methZ cZ s₁ BZ hml hv
  obtain ⟨rfl, hP, hK, hD0⟩ := hv
  have hx := BZ.exec
  have hb := BZ.bytes
  have hr := BZ.returns
  have hts : ∀ wZ ∈ sgT, wZ.before ([.ref z, .int (nI a), .int (nI b)] : List Value).toArray sZ = true := fun wZ h => atoms_spec (ws := (.code yX5_likeliest cX5_likeliest 9 (some .int) :: sgT)) BZ.pre wZ (List.mem_cons_of_mem _ h)
  have hown : sZ.vm.findClass RX5 = some mZ.cls := findClass_of_methodNamed BZ.named
  have hlocks := BZ.notSynchronized
  have hD : va_D (xA [(z, .inr (5, [.ref h, .ref q0, .ref qe, .ref hc, .ref s, .ref s2, .ref xa, .ref xb])), (q0, .inr (1, [.ref q1, .ref q2, .ref q3, .int (nI ord)])), (q1, .inl (cI, 7, .inl f1)), (q2, .inl (cI, 49, .inl f2)), (q3, .inl (cI, 343, .inl f3)), (qe, .inl (cI, 4, .inl fe)), (hc, .inr (0, [.long x0, .long x1]))]) [(z, .inr (5, [.ref h, .ref q0, .ref qe, .ref hc, .ref s, .ref s2, .ref xa, .ref xb])), (q0, .inr (1, [.ref q1, .ref q2, .ref q3, .int (nI ord)])), (q1, .inl (cI, 7, .inl f1)), (q2, .inl (cI, 49, .inl f2)), (q3, .inl (cI, 343, .inl f3)), (qe, .inl (cI, 4, .inl fe)), (hc, .inr (0, [.long x0, .long x1]))] := ⟨hD0.1, fun k q h => ⟨k, q.2, h⟩⟩
  generalize hAe : xA [(z, .inr (5, [.ref h, .ref q0, .ref qe, .ref hc, .ref s, .ref s2, .ref xa, .ref xb])), (q0, .inr (1, [.ref q1, .ref q2, .ref q3, .int (nI ord)])), (q1, .inl (cI, 7, .inl f1)), (q2, .inl (cI, 49, .inl f2)), (q3, .inl (cI, 343, .inl f3)), (qe, .inl (cI, 4, .inl fe)), (hc, .inr (0, [.long x0, .long x1]))] = A at hD ⊢
  have hS : va_S A sZ.heap sZ.heap [] := va_S.rf
  have hl := lv_entry ([.ref z, .int (nI a), .int (nI b)]) (n := 9) (Nat.le_of_ble_eq_true rfl)
  rw [lg_entry_eq]
  generalize (lg_sl ([.ref z, .int (nI a), .int (nI b)]) ++ List.replicate (9 - (lg_sl ([.ref z, .int (nI a), .int (nI b)])).length) Slot.unset).toArray = ls at hl ⊢
  have hl : lv_has ls 9 [(0, .ref z), (1, .int (nI a)), (2, .int (nI b))] := hl
  have haI := sg_n (n := a) (by omega)
  have hbI := sg_n (n := b) (by omega)
  have hP : va_P D vwCl [(z, .inr (5, [.ref h, .ref q0, .ref qe, .ref hc, .ref s, .ref s2, .ref xa, .ref xb])), (q0, .inr (1, [.ref q1, .ref q2, .ref q3, .int (nI ord)])), (q1, .inl (cI, 7, .inl f1)), (q2, .inl (cI, 49, .inl f2)), (q3, .inl (cI, 343, .inl f3)), (qe, .inl (cI, 4, .inl fe)), (hc, .inr (0, [.long x0, .long x1]))] sZ.heap := hP
  refine lv_iload_n hx hb dX5_likeliest_0 rfl (lv_at hl 1 rfl) ?_
  refine sg_callRi (va_runS (As := [.int (nI a)]) (rest := []) ⟨hx, hb, hml, hown, hts⟩ (c_X5_isSymbol l D cI cO (nI a)) ⟨(sg_cB 1 hts mcX5_isSymbol ml_X5_90 in_X5 rfl rfl (by decide +kernel) ⟨Nat.le_of_ble_eq_true rfl, Nat.le_of_ble_eq_true rfl⟩), hts _ st_X5_isSymbol⟩ (sg_pS hK hP [] rfl) rfl rfl hl.1 rfl (lv_room (Nat.le_of_ble_eq_true rfl)) dX5_likeliest_1 ⟨Nat.zero_le _, Nat.zero_le _⟩) ?_
  refine ci_beq (P := (0 ≤ (nI a).toInt ∧ (nI a).toInt < 7)) (tgt := 14) hx hb dX5_likeliest_4 rfl (fun h4 => by exfalso; omega) (fun h4 => ?_)
  refine lv_iload_n hx hb dX5_likeliest_7 rfl (lv_at hl 2 rfl) ?_
  refine sg_callRi (va_runS (As := [.int (nI b)]) (rest := []) ⟨hx, hb, hml, hown, hts⟩ (c_X5_isSymbol l D cI cO (nI b)) ⟨(sg_cB 1 hts mcX5_isSymbol ml_X5_90 in_X5 rfl rfl (by decide +kernel) ⟨Nat.le_of_ble_eq_true rfl, Nat.le_of_ble_eq_true rfl⟩), hts _ st_X5_isSymbol⟩ (sg_pS hK hP [] rfl) rfl rfl hl.1 rfl (lv_room (Nat.le_of_ble_eq_true rfl)) dX5_likeliest_8 ⟨Nat.zero_le _, Nat.zero_le _⟩) ?_
  refine ci_bne (P := (0 ≤ (nI b).toInt ∧ (nI b).toInt < 7)) (tgt := 16) hx hb dX5_likeliest_11 rfl (fun h11 => ?_) (fun h11 => by exfalso; omega)
  refine lv_iconst (v := nI 0) hx hb dX5_likeliest_16 (by decide) ?_
  refine lv_istore_n hx hb dX5_likeliest_17 rfl hl (by decide) rfl (fun ls hl => ?_)
  have hl : lv_has ls 9 [(3, .int (nI 0)), (0, .ref z), (1, .int (nI a)), (2, .int (nI b))] := hl
  refine lv_lconst (v := lN 0) hx hb dX5_likeliest_18 (by decide) ?_
  refine lv_lstore hx hb dX5_likeliest_19 hl (by decide) rfl (fun ls hl => ?_)
  have hl : lv_has ls 9 [(4, .long (lN 0)), (3, .int (nI 0)), (0, .ref z), (1, .int (nI a)), (2, .int (nI b))] := hl
  refine lv_lconst (v := lN 1) hx hb dX5_likeliest_21 (by decide) ?_
  refine lv_lstore hx hb dX5_likeliest_22 hl (by decide) rfl (fun ls hl => ?_)
  have hl : lv_has ls 9 [(6, .long (lN 1)), (4, .long (lN 0)), (3, .int (nI 0)), (0, .ref z), (1, .int (nI a)), (2, .int (nI b))] := hl
  refine lv_iconst (v := nI 0) hx hb dX5_likeliest_24 (by decide) ?_
  refine lv_istore hx hb dX5_likeliest_25 hl (by decide) rfl (fun ls hl => ?_)
  have hl : lv_has ls 9 [(8, .int (nI 0)), (6, .long (lN 1)), (4, .long (lN 0)), (3, .int (nI 0)), (0, .ref z), (1, .int (nI a)), (2, .int (nI b))] := hl
  refine sw_loop (I := fun kM ls H locs => ∃ (w : Nat) (best : Nat) (bo : Nat) (bu : Nat) (y0 : Int64) (y1 : Int64), kM = 6 - w ∧ lv_has ls 9 [(8, .int (nI w)), (6, .long (lN bu)), (4, .long (lN bo)), (3, .int (nI best)), (0, .ref z), (1, .int (nI a)), (2, .int (nI b))] ∧ va_P D vwCl [(z, .inr (5, [.ref h, .ref q0, .ref qe, .ref hc, .ref s, .ref s2, .ref xa, .ref xb])), (q0, .inr (1, [.ref q1, .ref q2, .ref q3, .int (nI ord)])), (q1, .inl (cI, 7, .inl f1)), (q2, .inl (cI, 49, .inl f2)), (q3, .inl (cI, 343, .inl f3)), (qe, .inl (cI, 4, .inl fe)), (hc, .inr (0, [.long y0, .long y1]))] H ∧ va_D A [(z, .inr (5, [.ref h, .ref q0, .ref qe, .ref hc, .ref s, .ref s2, .ref xa, .ref xb])), (q0, .inr (1, [.ref q1, .ref q2, .ref q3, .int (nI ord)])), (q1, .inl (cI, 7, .inl f1)), (q2, .inl (cI, 49, .inl f2)), (q3, .inl (cI, 343, .inl f3)), (qe, .inl (cI, 4, .inl fe)), (hc, .inr (0, [.long y0, .long y1]))] ∧ va_S A sZ.heap H locs ∧ (w ≤ 6) ∧ (bo < 2147483648) ∧ (bu < 2147483648) ∧ (sgLk (fun w => sgO rw ord e a b w) (fun w => sgU rw ord e a b w) 6 0 0 0 1 = sgLk (fun w => sgO rw ord e a b w) (fun w => sgU rw ord e a b w) (6 - w) w best bo bu)) ?_ _ ⟨0, 0, 0, 1, x0, x1, rfl, hl, hP, hD, hS, by omega, by omega, by omega, rfl⟩
  intro kM ls H locs hI ih27
  obtain ⟨w, best, bo, bu, y0, y1, hkM, hl, hP, hD, hS, hi, hbo, hbu, hq⟩ := hI
  refine lv_iload hx hb dX5_likeliest_27 (lv_at hl 0 rfl) ?_
  refine lv_bipush (v := nI 6) hx hb dX5_likeliest_29 (by decide) ?_
  refine ci_icmp_ge (X := ((w : Nat) : Int)) (Y := ((6 : Nat) : Int)) (tgt := 104) hx hb (sg_n (by omega)) (sg_n (by omega)) dX5_likeliest_31 rfl (fun h31 => ?_) (fun h31 => ?_)
  · refine lv_iload_n hx hb dX5_likeliest_104 rfl (lv_at hl 3 rfl) ?_
    exact W.iret hx hb hr (fun tZ ht hW => ⟨⟨_, (y0, y1), rfl, (by rw [hq, show 6 - w = 0 by omega]; rfl), by show va_P D vwCl _ tZ.heap; rw [ht]; exact hP⟩, hS.F ht⟩) hS.2.2 dX5_likeliest_105
  · refine lv_aload_n hx hb dX5_likeliest_34 rfl (lv_at hl 4 rfl) ?_
    refine va_get (D := D) (ci := 5) (v := .ref hc) (C := RX5) (T := TX5) (N := 8) hx hb hts hinX5 hown hK.1 hP 0 rfl rfl 3 (by decide) (hts _ fl_X5_30) (fun _ h9 => h9) rfl dX5_likeliest_35 ?_
    refine lv_aload_n hx hb dX5_likeliest_38 rfl (lv_at hl 4 rfl) ?_
    refine va_get (D := D) (ci := 5) (v := .ref q0) (C := RX5) (T := TX5) (N := 8) hx hb hts hinX5 hown hK.1 hP 0 rfl rfl 1 (by decide) (hts _ fl_X5_19) (fun _ h9 => h9) rfl dX5_likeliest_39 ?_
    refine lv_aload_n hx hb dX5_likeliest_42 rfl (lv_at hl 4 rfl) ?_
    refine va_get (D := D) (ci := 5) (v := .ref qe) (C := RX5) (T := TX5) (N := 8) hx hb hts hinX5 hown hK.1 hP 0 rfl rfl 2 (by decide) (hts _ fl_X5_23) (fun _ h9 => h9) rfl dX5_likeliest_43 ?_
    refine lv_iload_n hx hb dX5_likeliest_46 rfl (lv_at hl 5 rfl) ?_
    refine lv_iload_n hx hb dX5_likeliest_47 rfl (lv_at hl 6 rfl) ?_
    refine lv_iload hx hb dX5_likeliest_48 (lv_at hl 0 rfl) ?_
    refine sg_callWv (fun _ => [(z, .inr (5, [.ref h, .ref q0, .ref qe, .ref hc, .ref s, .ref s2, .ref xa, .ref xb])), (q0, .inr (1, [.ref q1, .ref q2, .ref q3, .int (nI ord)])), (q1, .inl (cI, 7, .inl f1)), (q2, .inl (cI, 49, .inl f2)), (q3, .inl (cI, 343, .inl f3)), (qe, .inl (cI, 4, .inl fe)), (hc, .inr (0, [.long (lN (sgO rw ord e a b w)), .long (lN (sgU rw ord e a b w))]))]) [(false, 0), (true, 1), (true, 2), (true, 3), (true, 4), (true, 5), (true, 0)] (va_runV (As := [.ref q0, .ref qe, .int (nI a), .int (nI b), .int (nI w)]) (rest := []) (C := RX0) ⟨hx, hb, hml, hown, hts⟩ (c_X0_find l D cI cO hc y0 y1 q0 q1 q2 q3 ord f1 f2 f3 qe fe rw e a b w hH hF hB (by omega) hE hfe (by omega) (by omega) (by omega)) ⟨(sg_cB 5 hts mcX0_find ml_X5_116 in_X0 rfl rfl (by decide +kernel) ⟨Nat.le_of_ble_eq_true rfl, Nat.le_of_ble_eq_true rfl⟩), hts _ im_X0_find, hts _ se_X0_find⟩ (sg_wV (q0 := 6) hK hP hD [6, 1, 2, 3, 4, 5] (by decide) rfl rfl rfl rfl) rfl rfl hl.1 rfl (lv_room (Nat.le_of_ble_eq_true rfl)) dX5_likeliest_50 ⟨Nat.zero_le _, Nat.zero_le _⟩) hP hD hS [6, 1, 2, 3, 4, 5] rfl (fun _ => rfl) (by decide) (fun _ => rfl) (fun u50 H locs hw50 hP hD hS => ?_)
    refine lv_aload_n hx hb dX5_likeliest_53 rfl (lv_at hl 4 rfl) ?_
    refine va_get (D := D) (ci := 5) (v := .ref hc) (C := RX5) (T := TX5) (N := 8) hx hb hts hinX5 hown hK.1 hP 0 rfl rfl 3 (by decide) (hts _ fl_X5_30) (fun _ h9 => h9) rfl dX5_likeliest_54 ?_
    refine va_get (D := D) (ci := 0) (v := .long (lN (sgO rw ord e a b w))) (C := RX0) (T := TX0) (N := 2) hx hb hts hinX0 hown hK.1 hP 6 rfl rfl 0 (by decide) (hts _ fl_X5_120) (fun _ h9 => h9) rfl dX5_likeliest_57 ?_
    refine lv_lload hx hb dX5_likeliest_60 (lv_at hl 1 rfl) ?_
    refine n_lmul hx hb dX5_likeliest_62 ?_
    refine lv_lload hx hb dX5_likeliest_63 (lv_at hl 2 rfl) ?_
    refine lv_aload_n hx hb dX5_likeliest_65 rfl (lv_at hl 4 rfl) ?_
    refine va_get (D := D) (ci := 5) (v := .ref hc) (C := RX5) (T := TX5) (N := 8) hx hb hts hinX5 hown hK.1 hP 0 rfl rfl 3 (by decide) (hts _ fl_X5_30) (fun _ h9 => h9) rfl dX5_likeliest_66 ?_
    refine va_get (D := D) (ci := 0) (v := .long (lN (sgU rw ord e a b w))) (C := RX0) (T := TX0) (N := 2) hx hb hts hinX0 hown hK.1 hP 6 rfl rfl 1 (by decide) (hts _ fl_X5_124) (fun _ h9 => h9) rfl dX5_likeliest_69 ?_
    refine n_lmul hx hb dX5_likeliest_72 ?_
    have hbd := sgO_bd hB ho.2 hE a b w
    have hm1 := sg_mul31 hbd.2.1 hbu
    have hm2 := sg_mul31 hbo hbd.2.2.2
    refine W.lcmp hx hb dX5_likeliest_73 ?_
    refine ci_if_le (X := (if bo * (sgU rw ord e a b w) < (sgO rw ord e a b w) * bu then (1 : Int) else if (sgO rw ord e a b w) * bu = bo * (sgU rw ord e a b w) then 0 else -1)) (tgt := 98) hx hb (sg_cmp (by omega) (by omega)) dX5_likeliest_74 rfl (fun h74 => ?_) (fun h74 => ?_)
    · refine lv_iinc (v := nI (w + 1)) hx hb dX5_likeliest_98 hl (k := 0) rfl (sg_inc _) (by decide) rfl (fun ls hl => ?_)
      have hl : lv_has ls 9 [(8, .int (nI (w + 1))), (6, .long (lN bu)), (4, .long (lN bo)), (3, .int (nI best)), (0, .ref z), (1, .int (nI a)), (2, .int (nI b))] := hl
      refine lv_goto (tgt := 27) hx hb dX5_likeliest_101 rfl ?_
      exact ih27 _ _ _ _ ⟨w + 1, best, bo, bu, lN (sgO rw ord e a b w), lN (sgU rw ord e a b w), rfl, lv_sub hl [0, 1, 2, 3, 4, 5, 6] rfl, hP, hD, hS, by omega, by first | exact hbo | exact hbd.2.1, by first | exact hbu | exact hbd.2.2.2, by first | exact hq.trans (sgLk_p (o := fun w => sgO rw ord e a b w) (u := fun w => sgU rw ord e a b w) (by omega) (by show _ * _ < _ * _; omega)) | exact hq.trans (sgLk_z (o := fun w => sgO rw ord e a b w) (u := fun w => sgU rw ord e a b w) (by omega) (by show ¬ _ * _ < _ * _; omega))⟩ (by omega)
    · refine lv_iload hx hb dX5_likeliest_77 (lv_at hl 0 rfl) ?_
      refine lv_istore_n hx hb dX5_likeliest_79 rfl hl (by decide) rfl (fun ls hl => ?_)
      have hl : lv_has ls 9 [(3, .int (nI w)), (8, .int (nI w)), (6, .long (lN bu)), (4, .long (lN bo)), (0, .ref z), (1, .int (nI a)), (2, .int (nI b))] := hl
      refine lv_aload_n hx hb dX5_likeliest_80 rfl (lv_at hl 4 rfl) ?_
      refine va_get (D := D) (ci := 5) (v := .ref hc) (C := RX5) (T := TX5) (N := 8) hx hb hts hinX5 hown hK.1 hP 0 rfl rfl 3 (by decide) (hts _ fl_X5_30) (fun _ h9 => h9) rfl dX5_likeliest_81 ?_
      refine va_get (D := D) (ci := 0) (v := .long (lN (sgO rw ord e a b w))) (C := RX0) (T := TX0) (N := 2) hx hb hts hinX0 hown hK.1 hP 6 rfl rfl 0 (by decide) (hts _ fl_X5_120) (fun _ h9 => h9) rfl dX5_likeliest_84 ?_
      refine lv_lstore hx hb dX5_likeliest_87 hl (by decide) rfl (fun ls hl => ?_)
      have hl : lv_has ls 9 [(4, .long (lN (sgO rw ord e a b w))), (3, .int (nI w)), (8, .int (nI w)), (6, .long (lN bu)), (0, .ref z), (1, .int (nI a)), (2, .int (nI b))] := hl
      refine lv_aload_n hx hb dX5_likeliest_89 rfl (lv_at hl 4 rfl) ?_
      refine va_get (D := D) (ci := 5) (v := .ref hc) (C := RX5) (T := TX5) (N := 8) hx hb hts hinX5 hown hK.1 hP 0 rfl rfl 3 (by decide) (hts _ fl_X5_30) (fun _ h9 => h9) rfl dX5_likeliest_90 ?_
      refine va_get (D := D) (ci := 0) (v := .long (lN (sgU rw ord e a b w))) (C := RX0) (T := TX0) (N := 2) hx hb hts hinX0 hown hK.1 hP 6 rfl rfl 1 (by decide) (hts _ fl_X5_124) (fun _ h9 => h9) rfl dX5_likeliest_93 ?_
      refine lv_lstore hx hb dX5_likeliest_96 hl (by decide) rfl (fun ls hl => ?_)
      have hl : lv_has ls 9 [(6, .long (lN (sgU rw ord e a b w))), (4, .long (lN (sgO rw ord e a b w))), (3, .int (nI w)), (8, .int (nI w)), (0, .ref z), (1, .int (nI a)), (2, .int (nI b))] := hl
      refine lv_iinc (v := nI (w + 1)) hx hb dX5_likeliest_98 hl (k := 3) rfl (sg_inc _) (by decide) rfl (fun ls hl => ?_)
      have hl : lv_has ls 9 [(8, .int (nI (w + 1))), (6, .long (lN (sgU rw ord e a b w))), (4, .long (lN (sgO rw ord e a b w))), (3, .int (nI w)), (0, .ref z), (1, .int (nI a)), (2, .int (nI b))] := hl
      refine lv_goto (tgt := 27) hx hb dX5_likeliest_101 rfl ?_
      exact ih27 _ _ _ _ ⟨w + 1, w, sgO rw ord e a b w, sgU rw ord e a b w, lN (sgO rw ord e a b w), lN (sgU rw ord e a b w), rfl, lv_sub hl [0, 1, 2, 3, 4, 5, 6] rfl, hP, hD, hS, by omega, by first | exact hbo | exact hbd.2.1, by first | exact hbu | exact hbd.2.2.2, by first | exact hq.trans (sgLk_p (o := fun w => sgO rw ord e a b w) (u := fun w => sgU rw ord e a b w) (by omega) (by show _ * _ < _ * _; omega)) | exact hq.trans (sgLk_z (o := fun w => sgO rw ord e a b w) (u := fun w => sgU rw ord e a b w) (by omega) (by show ¬ _ * _ < _ * _; omega))⟩ (by omega)

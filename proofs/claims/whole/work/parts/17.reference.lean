/-! the reference: answers of counts and chances -/
/-- the raw counts of the sentences below ns -/
def rwS (ln : Nat → Nat) (wd : Nat → Nat → Nat) (ns : Nat) : Nat → Nat → Nat → Nat → Nat := fun k a b c => sgRaw ln wd k a b c ns
theorem rwS_bd {ln : Nat → Nat} {wd : Nat → Nat → Nat} {ns : Nat} {gL gW : Nat → Int32} (hns : ns ≤ 8) (h : sgMm ln wd ns gL gW) : sgBd (rwS ln wd ns) := sgRaw_bd (wd := wd) hns (fun s hs => (h s (by omega)).2.1)
set_option maxHeartbeats 4000000 in
set_option maxRecDepth 100000 in
theorem r_count_bad (l : Launch) (D : va_G) (cI cO : ClassId) (m : Nat) (me : Nat) (ml : Nat) (mw : Nat) (wa : Nat) (wb : Nat) (wf : Nat) (li : Nat) (ord : Nat) (ns : Nat) (ev : Int32) (y0 : Int64) (y1 : Int64) (ge : Nat → Int32) (gL : Nat → Int32) (gW : Nat → Int32) (ga : Nat → Int32) (gb : Nat → Int32) (gf : Nat → Int32) (lim : Nat → Int32) (ln : Nat → Nat) (wd : Nat → Nat → Nat) (k : Int32) (x : Int32) (y : Int32) (v : Int32) (hns : ns ≤ 8) (hMm : sgMm ln wd ns gL gW) (hn : ¬ ((1 ≤ k.toInt ∧ k.toInt ≤ 3) ∧ (k.toInt < 2 ∨ (0 ≤ y.toInt ∧ y.toInt < 7)) ∧ (k.toInt < 3 ∨ (0 ≤ x.toInt ∧ x.toInt < 7)) ∧ 0 ≤ v.toInt ∧ v.toInt < 7)) : Met l yX6_count (.code yX6_count cX6_count 5 (some .int) :: sgT) ({ frames := 2, cells := 0, slots := 0, locals := 54 }) (sgWc D cI cO [.ref m, .int k, .int x, .int y, .int v] [(m, .inr (6, [.int (nI ord), .ref me, .int (nI ns), .ref ml, .ref mw, .int ev, .ref wa, .ref wb, .ref wf, .long y0, .long y1, .ref li])), (me, .inl (cI, 4, .inl ge)), (ml, .inl (cI, 9, .inl gL)), (mw, .inl (cI, 72, .inl gW)), (wa, .inl (cI, 72, .inl ga)), (wb, .inl (cI, 72, .inl gb)), (wf, .inl (cI, 72, .inl gf)), (li, .inl (cI, 240, .inl lim))]) (va_Qi (fun (r : Int32) (uZ : Nat × (Nat → Int32) × (Nat → Int32) × (Nat → Int32)) => r = nI 0) (fun uZ t => va_P D vwCl [(m, .inr (6, [.int (nI ord), .ref me, .int (nI ns), .ref ml, .ref mw, .int (nI uZ.1), .ref wa, .ref wb, .ref wf, .long y0, .long y1, .ref li])), (me, .inl (cI, 4, .inl ge)), (ml, .inl (cI, 9, .inl gL)), (mw, .inl (cI, 72, .inl gW)), (wa, .inl (cI, 72, .inl uZ.2.1)), (wb, .inl (cI, 72, .inl uZ.2.2.1)), (wf, .inl (cI, 72, .inl uZ.2.2.2)), (li, .inl (cI, 240, .inl lim))] t.heap) (xA [(m, .inr (6, [.int (nI ord), .ref me, .int (nI ns), .ref ml, .ref mw, .int ev, .ref wa, .ref wb, .ref wf, .long y0, .long y1, .ref li])), (me, .inl (cI, 4, .inl ge)), (ml, .inl (cI, 9, .inl gL)), (mw, .inl (cI, 72, .inl gW)), (wa, .inl (cI, 72, .inl ga)), (wb, .inl (cI, 72, .inl gb)), (wf, .inl (cI, 72, .inl gf)), (li, .inl (cI, 240, .inl lim))])) 0 0 (xA [(m, .inr (6, [.int (nI ord), .ref me, .int (nI ns), .ref ml, .ref mw, .int ev, .ref wa, .ref wb, .ref wf, .long y0, .long y1, .ref li])), (me, .inl (cI, 4, .inl ge)), (ml, .inl (cI, 9, .inl gL)), (mw, .inl (cI, 72, .inl gW)), (wa, .inl (cI, 72, .inl ga)), (wb, .inl (cI, 72, .inl gb)), (wf, .inl (cI, 72, .inl gf)), (li, .inl (cI, 240, .inl lim))]) := by
  refine Met.ofW (cc := cX6_count) (maxL := 5) (ret := (some .int)) (by decide) rfl ?_
  intro pZ eZ sZ mZ argsZ belowZ methZ cZ s₁ BZ hml hv
  obtain ⟨rfl, hP, hK, hD0⟩ := hv
  have hx := BZ.exec
  have hb := BZ.bytes
  have hr := BZ.returns
  have hts : ∀ wZ ∈ sgT, wZ.before ([.ref m, .int k, .int x, .int y, .int v] : List Value).toArray sZ = true := fun wZ h => atoms_spec (ws := (.code yX6_count cX6_count 5 (some .int) :: sgT)) BZ.pre wZ (List.mem_cons_of_mem _ h)
  have hown : sZ.vm.findClass RX6 = some mZ.cls := findClass_of_methodNamed BZ.named
  have hlocks := BZ.notSynchronized
  have hD : va_D (xA [(m, .inr (6, [.int (nI ord), .ref me, .int (nI ns), .ref ml, .ref mw, .int ev, .ref wa, .ref wb, .ref wf, .long y0, .long y1, .ref li])), (me, .inl (cI, 4, .inl ge)), (ml, .inl (cI, 9, .inl gL)), (mw, .inl (cI, 72, .inl gW)), (wa, .inl (cI, 72, .inl ga)), (wb, .inl (cI, 72, .inl gb)), (wf, .inl (cI, 72, .inl gf)), (li, .inl (cI, 240, .inl lim))]) [(m, .inr (6, [.int (nI ord), .ref me, .int (nI ns), .ref ml, .ref mw, .int ev, .ref wa, .ref wb, .ref wf, .long y0, .long y1, .ref li])), (me, .inl (cI, 4, .inl ge)), (ml, .inl (cI, 9, .inl gL)), (mw, .inl (cI, 72, .inl gW)), (wa, .inl (cI, 72, .inl ga)), (wb, .inl (cI, 72, .inl gb)), (wf, .inl (cI, 72, .inl gf)), (li, .inl (cI, 240, .inl lim))] := ⟨hD0.1, fun k q h => ⟨k, q.2, h⟩⟩
  generalize hAe : xA [(m, .inr (6, [.int (nI ord), .ref me, .int (nI ns), .ref ml, .ref mw, .int ev, .ref wa, .ref wb, .ref wf, .long y0, .long y1, .ref li])), (me, .inl (cI, 4, .inl ge)), (ml, .inl (cI, 9, .inl gL)), (mw, .inl (cI, 72, .inl gW)), (wa, .inl (cI, 72, .inl ga)), (wb, .inl (cI, 72, .inl gb)), (wf, .inl (cI, 72, .inl gf)), (li, .inl (cI, 240, .inl lim))] = A at hD ⊢
  have hS : va_S A sZ.heap sZ.heap [] := va_S.rf
  have hl := lv_entry ([.ref m, .int k, .int x, .int y, .int v]) (n := 5) (Nat.le_of_ble_eq_true rfl)
  rw [lg_entry_eq]
  generalize (lg_sl ([.ref m, .int k, .int x, .int y, .int v]) ++ List.replicate (5 - (lg_sl ([.ref m, .int k, .int x, .int y, .int v])).length) Slot.unset).toArray = ls at hl ⊢
  have hl : lv_has ls 5 [(0, .ref m), (1, .int k), (2, .int x), (3, .int y), (4, .int v)] := hl
  have hP : va_P D vwCl [(m, .inr (6, [.int (nI ord), .ref me, .int (nI ns), .ref ml, .ref mw, .int ev, .ref wa, .ref wb, .ref wf, .long y0, .long y1, .ref li])), (me, .inl (cI, 4, .inl ge)), (ml, .inl (cI, 9, .inl gL)), (mw, .inl (cI, 72, .inl gW)), (wa, .inl (cI, 72, .inl ga)), (wb, .inl (cI, 72, .inl gb)), (wf, .inl (cI, 72, .inl gf)), (li, .inl (cI, 240, .inl lim))] sZ.heap := hP
  refine lv_aload_n hx hb dX6_count_0 rfl (lv_at hl 0 rfl) ?_
  refine sg_callWv (fun u1 => [(m, .inr (6, [.int (nI ord), .ref me, .int (nI ns), .ref ml, .ref mw, .int (nI u1.1), .ref wa, .ref wb, .ref wf, .long y0, .long y1, .ref li])), (me, .inl (cI, 4, .inl ge)), (ml, .inl (cI, 9, .inl gL)), (mw, .inl (cI, 72, .inl gW)), (wa, .inl (cI, 72, .inl u1.2.1)), (wb, .inl (cI, 72, .inl u1.2.2.1)), (wf, .inl (cI, 72, .inl u1.2.2.2)), (li, .inl (cI, 240, .inl lim))]) [(true, 0), (true, 1), (true, 2), (true, 3), (true, 4), (true, 5), (true, 6), (true, 7)] (va_runV (As := []) (rest := []) (C := RX6) ⟨hx, hb, hml, hown, hts⟩ (c_X6_look l D cI cO m me ml mw wa wb wf li ord ns ev y0 y1 ge gL gW ga gb gf lim ln wd (by omega) hMm) ⟨(sg_cB 0 hts mcX6_look ml_X6_56 in_X6 rfl rfl (by decide +kernel) ⟨Nat.le_of_ble_eq_true rfl, Nat.le_of_ble_eq_true rfl⟩), hts _ im_X6_look, hts _ se_X6_look⟩ (sg_wV (q0 := 0) hK hP hD [0, 1, 2, 3, 4, 5, 6, 7] (by decide) rfl rfl rfl rfl) rfl rfl hl.1 rfl (lv_room (Nat.le_of_ble_eq_true rfl)) dX6_count_1 ⟨Nat.zero_le _, Nat.zero_le _⟩) hP hD hS [0, 1, 2, 3, 4, 5, 6, 7] rfl (fun _ => rfl) (by decide) (fun _ => rfl) (fun u1 H locs hw1 hP hD hS => ?_)
  refine lv_aload_n hx hb dX6_count_4 rfl (lv_at hl 0 rfl) ?_
  refine lv_iload_n hx hb dX6_count_5 rfl (lv_at hl 1 rfl) ?_
  refine lv_iload_n hx hb dX6_count_6 rfl (lv_at hl 2 rfl) ?_
  refine lv_iload_n hx hb dX6_count_7 rfl (lv_at hl 3 rfl) ?_
  refine sg_callRi (va_runV (As := [.int k, .int x, .int y]) (rest := []) (C := RX6) ⟨hx, hb, hml, hown, hts⟩ (c_X6_areSymbols l D cI cO m me ml mw wa wb wf li ord ns (nI u1.1) y0 y1 ge gL gW u1.2.1 u1.2.2.1 u1.2.2.2 lim k x y) ⟨(sg_cB 3 hts mcX6_areSymbols ml_X6_59 in_X6 rfl rfl (by decide +kernel) ⟨Nat.le_of_ble_eq_true rfl, Nat.le_of_ble_eq_true rfl⟩), hts _ im_X6_areSymbols, hts _ se_X6_areSymbols⟩ (sg_pV (q0 := 0) hK hP [0, 1, 2, 3, 4, 5, 6, 7] rfl rfl rfl rfl) rfl rfl hl.1 rfl (lv_room (Nat.le_of_ble_eq_true rfl)) dX6_count_8 ⟨Nat.zero_le _, Nat.zero_le _⟩) ?_
  refine ci_beq (P := ((1 ≤ k.toInt ∧ k.toInt ≤ 3) ∧ (k.toInt < 2 ∨ (0 ≤ y.toInt ∧ y.toInt < 7)) ∧ (k.toInt < 3 ∨ (0 ≤ x.toInt ∧ x.toInt < 7)))) (tgt := 34) hx hb dX6_count_11 rfl (fun h11 => ?_) (fun h11 => ?_)
  · refine lv_iconst (v := nI 0) hx hb dX6_count_34 (by decide) ?_
    exact W.iret hx hb hr (fun tZ ht hW => ⟨⟨_, u1, rfl, rfl, by show va_P D vwCl _ tZ.heap; rw [ht]; exact hP⟩, hS.F ht⟩) hS.2.2 dX6_count_35
  · refine lv_iload hx hb dX6_count_14 (lv_at hl 4 rfl) ?_
    refine sg_callRi (va_runS (As := [.int v]) (rest := []) ⟨hx, hb, hml, hown, hts⟩ (c_X6_isSymbol l D cI cO v) ⟨(sg_cB 1 hts mcX6_isSymbol ml_X6_53 in_X6 rfl rfl (by decide +kernel) ⟨Nat.le_of_ble_eq_true rfl, Nat.le_of_ble_eq_true rfl⟩), hts _ st_X6_isSymbol⟩ (sg_pS hK hP [] rfl) rfl rfl hl.1 rfl (lv_room (Nat.le_of_ble_eq_true rfl)) dX6_count_16 ⟨Nat.zero_le _, Nat.zero_le _⟩) ?_
    refine ci_beq (P := (0 ≤ v.toInt ∧ v.toInt < 7)) (tgt := 34) hx hb dX6_count_19 rfl (fun h19 => ?_) (fun h19 => by exfalso; omega)
    refine lv_iconst (v := nI 0) hx hb dX6_count_34 (by decide) ?_
    exact W.iret hx hb hr (fun tZ ht hW => ⟨⟨_, u1, rfl, rfl, by show va_P D vwCl _ tZ.heap; rw [ht]; exact hP⟩, hS.F ht⟩) hS.2.2 dX6_count_35
set_option maxHeartbeats 4000000 in
set_option maxRecDepth 100000 in
theorem c_X6_count (l : Launch) (D : va_G) (cI cO : ClassId) (m : Nat) (me : Nat) (ml : Nat) (mw : Nat) (wa : Nat) (wb : Nat) (wf : Nat) (li : Nat) (ord : Nat) (ns : Nat) (ev : Int32) (y0 : Int64) (y1 : Int64) (ge : Nat → Int32) (gL : Nat → Int32) (gW : Nat → Int32) (ga : Nat → Int32) (gb : Nat → Int32) (gf : Nat → Int32) (lim : Nat → Int32) (ln : Nat → Nat) (wd : Nat → Nat → Nat) (k : Nat) (x : Int32) (y : Int32) (a : Nat) (b : Nat) (v : Nat) (hns : ns ≤ 8) (hMm : sgMm ln wd ns gL gW) (ho : 1 ≤ ord ∧ ord ≤ 3) (hk : 1 ≤ k ∧ k ≤ 3) (hy : 2 ≤ k → y = nI b) (hz : 3 ≤ k → x = nI a) (ha : a < 7) (hbb : b < 7) (hv : v < 7) : Met l yX6_count (.code yX6_count cX6_count 5 (some .int) :: sgT) ({ frames := 2, cells := 0, slots := 0, locals := 54 }) (sgWc D cI cO [.ref m, .int (nI k), .int x, .int y, .int (nI v)] [(m, .inr (6, [.int (nI ord), .ref me, .int (nI ns), .ref ml, .ref mw, .int ev, .ref wa, .ref wb, .ref wf, .long y0, .long y1, .ref li])), (me, .inl (cI, 4, .inl ge)), (ml, .inl (cI, 9, .inl gL)), (mw, .inl (cI, 72, .inl gW)), (wa, .inl (cI, 72, .inl ga)), (wb, .inl (cI, 72, .inl gb)), (wf, .inl (cI, 72, .inl gf)), (li, .inl (cI, 240, .inl lim))]) (va_Qi (fun (r : Int32) (uZ : Nat × (Nat → Int32) × (Nat → Int32) × (Nat → Int32)) => r = nI (sgC (rwS ln wd ns) ord k a b v)) (fun uZ t => va_P D vwCl [(m, .inr (6, [.int (nI ord), .ref me, .int (nI ns), .ref ml, .ref mw, .int (nI uZ.1), .ref wa, .ref wb, .ref wf, .long y0, .long y1, .ref li])), (me, .inl (cI, 4, .inl ge)), (ml, .inl (cI, 9, .inl gL)), (mw, .inl (cI, 72, .inl gW)), (wa, .inl (cI, 72, .inl uZ.2.1)), (wb, .inl (cI, 72, .inl uZ.2.2.1)), (wf, .inl (cI, 72, .inl uZ.2.2.2)), (li, .inl (cI, 240, .inl lim))] t.heap) (xA [(m, .inr (6, [.int (nI ord), .ref me, .int (nI ns), .ref ml, .ref mw, .int ev, .ref wa, .ref wb, .ref wf, .long y0, .long y1, .ref li])), (me, .inl (cI, 4, .inl ge)), (ml, .inl (cI, 9, .inl gL)), (mw, .inl (cI, 72, .inl gW)), (wa, .inl (cI, 72, .inl ga)), (wb, .inl (cI, 72, .inl gb)), (wf, .inl (cI, 72, .inl gf)), (li, .inl (cI, 240, .inl lim))])) 0 0 (xA [(m, .inr (6, [.int (nI ord), .ref me, .int (nI ns), .ref ml, .ref mw, .int ev, .ref wa, .ref wb, .ref wf, .long y0, .long y1, .ref li])), (me, .inl (cI, 4, .inl ge)), (ml, .inl (cI, 9, .inl gL)), (mw, .inl (cI, 72, .inl gW)), (wa, .inl (cI, 72, .inl ga)), (wb, .inl (cI, 72, .inl gb)), (wf, .inl (cI, 72, .inl gf)), (li, .inl (cI, 240, .inl lim))]) := by
  refine Met.ofW (cc := cX6_count) (maxL := 5) (ret := (some .int)) (by decide) rfl ?_
  intro pZ eZ sZ mZ argsZ belowZ methZ cZ s₁ BZ hml hv
  obtain ⟨rfl, hP, hK, hD0⟩ := hv
  have hx := BZ.exec
  have hb := BZ.bytes
  have hr := BZ.returns
  have hts : ∀ wZ ∈ sgT, wZ.before ([.ref m, .int (nI k), .int x, .int y, .int (nI v)] : List Value).toArray sZ = true := fun wZ h => atoms_spec (ws := (.code yX6_count cX6_count 5 (some .int) :: sgT)) BZ.pre wZ (List.mem_cons_of_mem _ h)
  have hown : sZ.vm.findClass RX6 = some mZ.cls := findClass_of_methodNamed BZ.named
  have hlocks := BZ.notSynchronized
  have hD : va_D (xA [(m, .inr (6, [.int (nI ord), .ref me, .int (nI ns), .ref ml, .ref mw, .int ev, .ref wa, .ref wb, .ref wf, .long y0, .long y1, .ref li])), (me, .inl (cI, 4, .inl ge)), (ml, .inl (cI, 9, .inl gL)), (mw, .inl (cI, 72, .inl gW)), (wa, .inl (cI, 72, .inl ga)), (wb, .inl (cI, 72, .inl gb)), (wf, .inl (cI, 72, .inl gf)), (li, .inl (cI, 240, .inl lim))]) [(m, .inr (6, [.int (nI ord), .ref me, .int (nI ns), .ref ml, .ref mw, .int ev, .ref wa, .ref wb, .ref wf, .long y0, .long y1, .ref li])), (me, .inl (cI, 4, .inl ge)), (ml, .inl (cI, 9, .inl gL)), (mw, .inl (cI, 72, .inl gW)), (wa, .inl (cI, 72, .inl ga)), (wb, .inl (cI, 72, .inl gb)), (wf, .inl (cI, 72, .inl gf)), (li, .inl (cI, 240, .inl lim))] := ⟨hD0.1, fun k q h => ⟨k, q.2, h⟩⟩
  generalize hAe : xA [(m, .inr (6, [.int (nI ord), .ref me, .int (nI ns), .ref ml, .ref mw, .int ev, .ref wa, .ref wb, .ref wf, .long y0, .long y1, .ref li])), (me, .inl (cI, 4, .inl ge)), (ml, .inl (cI, 9, .inl gL)), (mw, .inl (cI, 72, .inl gW)), (wa, .inl (cI, 72, .inl ga)), (wb, .inl (cI, 72, .inl gb)), (wf, .inl (cI, 72, .inl gf)), (li, .inl (cI, 240, .inl lim))] = A at hD ⊢
  have hS : va_S A sZ.heap sZ.heap [] := va_S.rf
  have hl := lv_entry ([.ref m, .int (nI k), .int x, .int y, .int (nI v)]) (n := 5) (Nat.le_of_ble_eq_true rfl)
  rw [lg_entry_eq]
  generalize (lg_sl ([.ref m, .int (nI k), .int x, .int y, .int (nI v)]) ++ List.replicate (5 - (lg_sl ([.ref m, .int (nI k), .int x, .int y, .int (nI v)])).length) Slot.unset).toArray = ls at hl ⊢
  have hl : lv_has ls 5 [(0, .ref m), (1, .int (nI k)), (2, .int x), (3, .int y), (4, .int (nI v))] := hl
  have hkI := sg_n (n := k) (by omega)
  have hyI : 2 ≤ k → y.toInt = (b : Int) := fun h => by rw [hy h]; exact sg_n (by omega)
  have hzI : 3 ≤ k → x.toInt = (a : Int) := fun h => by rw [hz h]; exact sg_n (by omega)
  have hvI := sg_n (n := v) (by omega)
  have hB := rwS_bd hns hMm
  have hP : va_P D vwCl [(m, .inr (6, [.int (nI ord), .ref me, .int (nI ns), .ref ml, .ref mw, .int ev, .ref wa, .ref wb, .ref wf, .long y0, .long y1, .ref li])), (me, .inl (cI, 4, .inl ge)), (ml, .inl (cI, 9, .inl gL)), (mw, .inl (cI, 72, .inl gW)), (wa, .inl (cI, 72, .inl ga)), (wb, .inl (cI, 72, .inl gb)), (wf, .inl (cI, 72, .inl gf)), (li, .inl (cI, 240, .inl lim))] sZ.heap := hP
  refine lv_aload_n hx hb dX6_count_0 rfl (lv_at hl 0 rfl) ?_
  refine sg_callWv (fun u1 => [(m, .inr (6, [.int (nI ord), .ref me, .int (nI ns), .ref ml, .ref mw, .int (nI u1.1), .ref wa, .ref wb, .ref wf, .long y0, .long y1, .ref li])), (me, .inl (cI, 4, .inl ge)), (ml, .inl (cI, 9, .inl gL)), (mw, .inl (cI, 72, .inl gW)), (wa, .inl (cI, 72, .inl u1.2.1)), (wb, .inl (cI, 72, .inl u1.2.2.1)), (wf, .inl (cI, 72, .inl u1.2.2.2)), (li, .inl (cI, 240, .inl lim))]) [(true, 0), (true, 1), (true, 2), (true, 3), (true, 4), (true, 5), (true, 6), (true, 7)] (va_runV (As := []) (rest := []) (C := RX6) ⟨hx, hb, hml, hown, hts⟩ (c_X6_look l D cI cO m me ml mw wa wb wf li ord ns ev y0 y1 ge gL gW ga gb gf lim ln wd (by omega) hMm) ⟨(sg_cB 0 hts mcX6_look ml_X6_56 in_X6 rfl rfl (by decide +kernel) ⟨Nat.le_of_ble_eq_true rfl, Nat.le_of_ble_eq_true rfl⟩), hts _ im_X6_look, hts _ se_X6_look⟩ (sg_wV (q0 := 0) hK hP hD [0, 1, 2, 3, 4, 5, 6, 7] (by decide) rfl rfl rfl rfl) rfl rfl hl.1 rfl (lv_room (Nat.le_of_ble_eq_true rfl)) dX6_count_1 ⟨Nat.zero_le _, Nat.zero_le _⟩) hP hD hS [0, 1, 2, 3, 4, 5, 6, 7] rfl (fun _ => rfl) (by decide) (fun _ => rfl) (fun u1 H locs hw1 hP hD hS => ?_)
  have hw1 : sgEv (rwS ln wd ns) u1.2.1 u1.2.2.1 u1.2.2.2 u1.1 := hw1
  refine lv_aload_n hx hb dX6_count_4 rfl (lv_at hl 0 rfl) ?_
  refine lv_iload_n hx hb dX6_count_5 rfl (lv_at hl 1 rfl) ?_
  refine lv_iload_n hx hb dX6_count_6 rfl (lv_at hl 2 rfl) ?_
  refine lv_iload_n hx hb dX6_count_7 rfl (lv_at hl 3 rfl) ?_
  refine sg_callRi (va_runV (As := [.int (nI k), .int x, .int y]) (rest := []) (C := RX6) ⟨hx, hb, hml, hown, hts⟩ (c_X6_areSymbols l D cI cO m me ml mw wa wb wf li ord ns (nI u1.1) y0 y1 ge gL gW u1.2.1 u1.2.2.1 u1.2.2.2 lim (nI k) x y) ⟨(sg_cB 3 hts mcX6_areSymbols ml_X6_59 in_X6 rfl rfl (by decide +kernel) ⟨Nat.le_of_ble_eq_true rfl, Nat.le_of_ble_eq_true rfl⟩), hts _ im_X6_areSymbols, hts _ se_X6_areSymbols⟩ (sg_pV (q0 := 0) hK hP [0, 1, 2, 3, 4, 5, 6, 7] rfl rfl rfl rfl) rfl rfl hl.1 rfl (lv_room (Nat.le_of_ble_eq_true rfl)) dX6_count_8 ⟨Nat.zero_le _, Nat.zero_le _⟩) ?_
  refine ci_beq (P := ((1 ≤ (nI k).toInt ∧ (nI k).toInt ≤ 3) ∧ ((nI k).toInt < 2 ∨ (0 ≤ y.toInt ∧ y.toInt < 7)) ∧ ((nI k).toInt < 3 ∨ (0 ≤ x.toInt ∧ x.toInt < 7)))) (tgt := 34) hx hb dX6_count_11 rfl (fun h11 => by exfalso; omega) (fun h11 => ?_)
  refine lv_iload hx hb dX6_count_14 (lv_at hl 4 rfl) ?_
  refine sg_callRi (va_runS (As := [.int (nI v)]) (rest := []) ⟨hx, hb, hml, hown, hts⟩ (c_X6_isSymbol l D cI cO (nI v)) ⟨(sg_cB 1 hts mcX6_isSymbol ml_X6_53 in_X6 rfl rfl (by decide +kernel) ⟨Nat.le_of_ble_eq_true rfl, Nat.le_of_ble_eq_true rfl⟩), hts _ st_X6_isSymbol⟩ (sg_pS hK hP [] rfl) rfl rfl hl.1 rfl (lv_room (Nat.le_of_ble_eq_true rfl)) dX6_count_16 ⟨Nat.zero_le _, Nat.zero_le _⟩) ?_
  refine ci_beq (P := (0 ≤ (nI v).toInt ∧ (nI v).toInt < 7)) (tgt := 34) hx hb dX6_count_19 rfl (fun h19 => by exfalso; omega) (fun h19 => ?_)
  refine lv_aload_n hx hb dX6_count_22 rfl (lv_at hl 0 rfl) ?_
  refine lv_iload_n hx hb dX6_count_23 rfl (lv_at hl 1 rfl) ?_
  refine lv_iload_n hx hb dX6_count_24 rfl (lv_at hl 2 rfl) ?_
  refine lv_iload_n hx hb dX6_count_25 rfl (lv_at hl 3 rfl) ?_
  refine lv_iload hx hb dX6_count_26 (lv_at hl 4 rfl) ?_
  refine sg_callRi (va_runV (As := [.int (nI k), .int x, .int y, .int (nI v)]) (rest := []) (C := RX6) ⟨hx, hb, hml, hown, hts⟩ (c_X6_countOf l D cI cO m me ml mw wa wb wf li ord ns y0 y1 ge gL gW u1.2.1 u1.2.2.1 u1.2.2.2 lim u1.1 (rwS ln wd ns) k x y a b v hw1 hB (by omega) (by omega) hy hz (by omega) (by omega) (by omega)) ⟨(sg_cB 4 hts mcX6_countOf ml_X6_63 in_X6 rfl rfl (by decide +kernel) ⟨Nat.le_of_ble_eq_true rfl, Nat.le_of_ble_eq_true rfl⟩), hts _ im_X6_countOf, hts _ se_X6_countOf⟩ (sg_pV (q0 := 0) hK hP [0, 1, 2, 3, 4, 5, 6, 7] rfl rfl rfl rfl) rfl rfl hl.1 rfl (lv_room (Nat.le_of_ble_eq_true rfl)) dX6_count_28 ⟨Nat.zero_le _, Nat.zero_le _⟩) ?_
  refine lv_goto (tgt := 35) hx hb dX6_count_31 rfl ?_
  exact W.iret hx hb hr (fun tZ ht hW => ⟨⟨_, u1, rfl, rfl, by show va_P D vwCl _ tZ.heap; rw [ht]; exact hP⟩, hS.F ht⟩) hS.2.2 dX6_count_35
set_option maxHeartbeats 4000000 in
set_option maxRecDepth 100000 in
theorem r_total_bad (l : Launch) (D : va_G) (cI cO : ClassId) (m : Nat) (me : Nat) (ml : Nat) (mw : Nat) (wa : Nat) (wb : Nat) (wf : Nat) (li : Nat) (ord : Nat) (ns : Nat) (ev : Int32) (y0 : Int64) (y1 : Int64) (ge : Nat → Int32) (gL : Nat → Int32) (gW : Nat → Int32) (ga : Nat → Int32) (gb : Nat → Int32) (gf : Nat → Int32) (lim : Nat → Int32) (ln : Nat → Nat) (wd : Nat → Nat → Nat) (k : Int32) (x : Int32) (y : Int32) (hns : ns ≤ 8) (hMm : sgMm ln wd ns gL gW) (hn : ¬ ((1 ≤ k.toInt ∧ k.toInt ≤ 3) ∧ (k.toInt < 2 ∨ (0 ≤ y.toInt ∧ y.toInt < 7)) ∧ (k.toInt < 3 ∨ (0 ≤ x.toInt ∧ x.toInt < 7)))) : Met l yX6_total (.code yX6_total cX6_total 4 (some .int) :: sgT) ({ frames := 3, cells := 0, slots := 0, locals := 79 }) (sgWc D cI cO [.ref m, .int k, .int x, .int y] [(m, .inr (6, [.int (nI ord), .ref me, .int (nI ns), .ref ml, .ref mw, .int ev, .ref wa, .ref wb, .ref wf, .long y0, .long y1, .ref li])), (me, .inl (cI, 4, .inl ge)), (ml, .inl (cI, 9, .inl gL)), (mw, .inl (cI, 72, .inl gW)), (wa, .inl (cI, 72, .inl ga)), (wb, .inl (cI, 72, .inl gb)), (wf, .inl (cI, 72, .inl gf)), (li, .inl (cI, 240, .inl lim))]) (va_Qi (fun (r : Int32) (uZ : Nat × (Nat → Int32) × (Nat → Int32) × (Nat → Int32)) => r = nI 0) (fun uZ t => va_P D vwCl [(m, .inr (6, [.int (nI ord), .ref me, .int (nI ns), .ref ml, .ref mw, .int (nI uZ.1), .ref wa, .ref wb, .ref wf, .long y0, .long y1, .ref li])), (me, .inl (cI, 4, .inl ge)), (ml, .inl (cI, 9, .inl gL)), (mw, .inl (cI, 72, .inl gW)), (wa, .inl (cI, 72, .inl uZ.2.1)), (wb, .inl (cI, 72, .inl uZ.2.2.1)), (wf, .inl (cI, 72, .inl uZ.2.2.2)), (li, .inl (cI, 240, .inl lim))] t.heap) (xA [(m, .inr (6, [.int (nI ord), .ref me, .int (nI ns), .ref ml, .ref mw, .int ev, .ref wa, .ref wb, .ref wf, .long y0, .long y1, .ref li])), (me, .inl (cI, 4, .inl ge)), (ml, .inl (cI, 9, .inl gL)), (mw, .inl (cI, 72, .inl gW)), (wa, .inl (cI, 72, .inl ga)), (wb, .inl (cI, 72, .inl gb)), (wf, .inl (cI, 72, .inl gf)), (li, .inl (cI, 240, .inl lim))])) 0 0 (xA [(m, .inr (6, [.int (nI ord), .ref me, .int (nI ns), .ref ml, .ref mw, .int ev, .ref wa, .ref wb, .ref wf, .long y0, .long y1, .ref li])), (me, .inl (cI, 4, .inl ge)), (ml, .inl (cI, 9, .inl gL)), (mw, .inl (cI, 72, .inl gW)), (wa, .inl (cI, 72, .inl ga)), (wb, .inl (cI, 72, .inl gb)), (wf, .inl (cI, 72, .inl gf)), (li, .inl (cI, 240, .inl lim))]) := by
  refine Met.ofW (cc := cX6_total) (maxL := 4) (ret := (some .int)) (by decide) rfl ?_
  intro pZ eZ sZ mZ argsZ belowZ methZ cZ s₁ BZ hml hv
  obtain ⟨rfl, hP, hK, hD0⟩ := hv
  have hx := BZ.exec
  have hb := BZ.bytes
  have hr := BZ.returns
  have hts : ∀ wZ ∈ sgT, wZ.before ([.ref m, .int k, .int x, .int y] : List Value).toArray sZ = true := fun wZ h => atoms_spec (ws := (.code yX6_total cX6_total 4 (some .int) :: sgT)) BZ.pre wZ (List.mem_cons_of_mem _ h)
  have hown : sZ.vm.findClass RX6 = some mZ.cls := findClass_of_methodNamed BZ.named
  have hlocks := BZ.notSynchronized
  have hD : va_D (xA [(m, .inr (6, [.int (nI ord), .ref me, .int (nI ns), .ref ml, .ref mw, .int ev, .ref wa, .ref wb, .ref wf, .long y0, .long y1, .ref li])), (me, .inl (cI, 4, .inl ge)), (ml, .inl (cI, 9, .inl gL)), (mw, .inl (cI, 72, .inl gW)), (wa, .inl (cI, 72, .inl ga)), (wb, .inl (cI, 72, .inl gb)), (wf, .inl (cI, 72, .inl gf)), (li, .inl (cI, 240, .inl lim))]) [(m, .inr (6, [.int (nI ord), .ref me, .int (nI ns), .ref ml, .ref mw, .int ev, .ref wa, .ref wb, .ref wf, .long y0, .long y1, .ref li])), (me, .inl (cI, 4, .inl ge)), (ml, .inl (cI, 9, .inl gL)), (mw, .inl (cI, 72, .inl gW)), (wa, .inl (cI, 72, .inl ga)), (wb, .inl (cI, 72, .inl gb)), (wf, .inl (cI, 72, .inl gf)), (li, .inl (cI, 240, .inl lim))] := ⟨hD0.1, fun k q h => ⟨k, q.2, h⟩⟩
  generalize hAe : xA [(m, .inr (6, [.int (nI ord), .ref me, .int (nI ns), .ref ml, .ref mw, .int ev, .ref wa, .ref wb, .ref wf, .long y0, .long y1, .ref li])), (me, .inl (cI, 4, .inl ge)), (ml, .inl (cI, 9, .inl gL)), (mw, .inl (cI, 72, .inl gW)), (wa, .inl (cI, 72, .inl ga)), (wb, .inl (cI, 72, .inl gb)), (wf, .inl (cI, 72, .inl gf)), (li, .inl (cI, 240, .inl lim))] = A at hD ⊢
  have hS : va_S A sZ.heap sZ.heap [] := va_S.rf
  have hl := lv_entry ([.ref m, .int k, .int x, .int y]) (n := 4) (Nat.le_of_ble_eq_true rfl)
  rw [lg_entry_eq]
  generalize (lg_sl ([.ref m, .int k, .int x, .int y]) ++ List.replicate (4 - (lg_sl ([.ref m, .int k, .int x, .int y])).length) Slot.unset).toArray = ls at hl ⊢
  have hl : lv_has ls 4 [(0, .ref m), (1, .int k), (2, .int x), (3, .int y)] := hl
  have hP : va_P D vwCl [(m, .inr (6, [.int (nI ord), .ref me, .int (nI ns), .ref ml, .ref mw, .int ev, .ref wa, .ref wb, .ref wf, .long y0, .long y1, .ref li])), (me, .inl (cI, 4, .inl ge)), (ml, .inl (cI, 9, .inl gL)), (mw, .inl (cI, 72, .inl gW)), (wa, .inl (cI, 72, .inl ga)), (wb, .inl (cI, 72, .inl gb)), (wf, .inl (cI, 72, .inl gf)), (li, .inl (cI, 240, .inl lim))] sZ.heap := hP
  refine lv_aload_n hx hb dX6_total_0 rfl (lv_at hl 0 rfl) ?_
  refine sg_callWv (fun u1 => [(m, .inr (6, [.int (nI ord), .ref me, .int (nI ns), .ref ml, .ref mw, .int (nI u1.1), .ref wa, .ref wb, .ref wf, .long y0, .long y1, .ref li])), (me, .inl (cI, 4, .inl ge)), (ml, .inl (cI, 9, .inl gL)), (mw, .inl (cI, 72, .inl gW)), (wa, .inl (cI, 72, .inl u1.2.1)), (wb, .inl (cI, 72, .inl u1.2.2.1)), (wf, .inl (cI, 72, .inl u1.2.2.2)), (li, .inl (cI, 240, .inl lim))]) [(true, 0), (true, 1), (true, 2), (true, 3), (true, 4), (true, 5), (true, 6), (true, 7)] (va_runV (As := []) (rest := []) (C := RX6) ⟨hx, hb, hml, hown, hts⟩ (c_X6_look l D cI cO m me ml mw wa wb wf li ord ns ev y0 y1 ge gL gW ga gb gf lim ln wd (by omega) hMm) ⟨(sg_cB 0 hts mcX6_look ml_X6_56 in_X6 rfl rfl (by decide +kernel) ⟨Nat.le_of_ble_eq_true rfl, Nat.le_of_ble_eq_true rfl⟩), hts _ im_X6_look, hts _ se_X6_look⟩ (sg_wV (q0 := 0) hK hP hD [0, 1, 2, 3, 4, 5, 6, 7] (by decide) rfl rfl rfl rfl) rfl rfl hl.1 rfl (lv_room (Nat.le_of_ble_eq_true rfl)) dX6_total_1 ⟨Nat.zero_le _, Nat.zero_le _⟩) hP hD hS [0, 1, 2, 3, 4, 5, 6, 7] rfl (fun _ => rfl) (by decide) (fun _ => rfl) (fun u1 H locs hw1 hP hD hS => ?_)
  refine lv_aload_n hx hb dX6_total_4 rfl (lv_at hl 0 rfl) ?_
  refine lv_iload_n hx hb dX6_total_5 rfl (lv_at hl 1 rfl) ?_
  refine lv_iload_n hx hb dX6_total_6 rfl (lv_at hl 2 rfl) ?_
  refine lv_iload_n hx hb dX6_total_7 rfl (lv_at hl 3 rfl) ?_
  refine sg_callRi (va_runV (As := [.int k, .int x, .int y]) (rest := []) (C := RX6) ⟨hx, hb, hml, hown, hts⟩ (c_X6_areSymbols l D cI cO m me ml mw wa wb wf li ord ns (nI u1.1) y0 y1 ge gL gW u1.2.1 u1.2.2.1 u1.2.2.2 lim k x y) ⟨(sg_cB 3 hts mcX6_areSymbols ml_X6_59 in_X6 rfl rfl (by decide +kernel) ⟨Nat.le_of_ble_eq_true rfl, Nat.le_of_ble_eq_true rfl⟩), hts _ im_X6_areSymbols, hts _ se_X6_areSymbols⟩ (sg_pV (q0 := 0) hK hP [0, 1, 2, 3, 4, 5, 6, 7] rfl rfl rfl rfl) rfl rfl hl.1 rfl (lv_room (Nat.le_of_ble_eq_true rfl)) dX6_total_8 ⟨Nat.zero_le _, Nat.zero_le _⟩) ?_
  refine ci_beq (P := ((1 ≤ k.toInt ∧ k.toInt ≤ 3) ∧ (k.toInt < 2 ∨ (0 ≤ y.toInt ∧ y.toInt < 7)) ∧ (k.toInt < 3 ∨ (0 ≤ x.toInt ∧ x.toInt < 7)))) (tgt := 24) hx hb dX6_total_11 rfl (fun h11 => ?_) (fun h11 => by exfalso; omega)
  refine lv_iconst (v := nI 0) hx hb dX6_total_24 (by decide) ?_
  exact W.iret hx hb hr (fun tZ ht hW => ⟨⟨_, u1, rfl, rfl, by show va_P D vwCl _ tZ.heap; rw [ht]; exact hP⟩, hS.F ht⟩) hS.2.2 dX6_total_25
set_option maxHeartbeats 4000000 in
set_option maxRecDepth 100000 in
theorem c_X6_total (l : Launch) (D : va_G) (cI cO : ClassId) (m : Nat) (me : Nat) (ml : Nat) (mw : Nat) (wa : Nat) (wb : Nat) (wf : Nat) (li : Nat) (ord : Nat) (ns : Nat) (ev : Int32) (y0 : Int64) (y1 : Int64) (ge : Nat → Int32) (gL : Nat → Int32) (gW : Nat → Int32) (ga : Nat → Int32) (gb : Nat → Int32) (gf : Nat → Int32) (lim : Nat → Int32) (ln : Nat → Nat) (wd : Nat → Nat → Nat) (k : Nat) (x : Int32) (y : Int32) (a : Nat) (b : Nat) (hns : ns ≤ 8) (hMm : sgMm ln wd ns gL gW) (ho : 1 ≤ ord ∧ ord ≤ 3) (hk : 1 ≤ k ∧ k ≤ 3) (hy : 2 ≤ k → y = nI b) (hz : 3 ≤ k → x = nI a) (ha : a < 7) (hbb : b < 7) : Met l yX6_total (.code yX6_total cX6_total 4 (some .int) :: sgT) ({ frames := 3, cells := 0, slots := 0, locals := 79 }) (sgWc D cI cO [.ref m, .int (nI k), .int x, .int y] [(m, .inr (6, [.int (nI ord), .ref me, .int (nI ns), .ref ml, .ref mw, .int ev, .ref wa, .ref wb, .ref wf, .long y0, .long y1, .ref li])), (me, .inl (cI, 4, .inl ge)), (ml, .inl (cI, 9, .inl gL)), (mw, .inl (cI, 72, .inl gW)), (wa, .inl (cI, 72, .inl ga)), (wb, .inl (cI, 72, .inl gb)), (wf, .inl (cI, 72, .inl gf)), (li, .inl (cI, 240, .inl lim))]) (va_Qi (fun (r : Int32) (uZ : Nat × (Nat → Int32) × (Nat → Int32) × (Nat → Int32)) => r = nI (sgTot (rwS ln wd ns) ord k a b 6)) (fun uZ t => va_P D vwCl [(m, .inr (6, [.int (nI ord), .ref me, .int (nI ns), .ref ml, .ref mw, .int (nI uZ.1), .ref wa, .ref wb, .ref wf, .long y0, .long y1, .ref li])), (me, .inl (cI, 4, .inl ge)), (ml, .inl (cI, 9, .inl gL)), (mw, .inl (cI, 72, .inl gW)), (wa, .inl (cI, 72, .inl uZ.2.1)), (wb, .inl (cI, 72, .inl uZ.2.2.1)), (wf, .inl (cI, 72, .inl uZ.2.2.2)), (li, .inl (cI, 240, .inl lim))] t.heap) (xA [(m, .inr (6, [.int (nI ord), .ref me, .int (nI ns), .ref ml, .ref mw, .int ev, .ref wa, .ref wb, .ref wf, .long y0, .long y1, .ref li])), (me, .inl (cI, 4, .inl ge)), (ml, .inl (cI, 9, .inl gL)), (mw, .inl (cI, 72, .inl gW)), (wa, .inl (cI, 72, .inl ga)), (wb, .inl (cI, 72, .inl gb)), (wf, .inl (cI, 72, .inl gf)), (li, .inl (cI, 240, .inl lim))])) 0 0 (xA [(m, .inr (6, [.int (nI ord), .ref me, .int (nI ns), .ref ml, .ref mw, .int ev, .ref wa, .ref wb, .ref wf, .long y0, .long y1, .ref li])), (me, .inl (cI, 4, .inl ge)), (ml, .inl (cI, 9, .inl gL)), (mw, .inl (cI, 72, .inl gW)), (wa, .inl (cI, 72, .inl ga)), (wb, .inl (cI, 72, .inl gb)), (wf, .inl (cI, 72, .inl gf)), (li, .inl (cI, 240, .inl lim))]) := by
  refine Met.ofW (cc := cX6_total) (maxL := 4) (ret := (some .int)) (by decide) rfl ?_
  intro pZ eZ sZ mZ argsZ belowZ methZ cZ s₁ BZ hml hv
  obtain ⟨rfl, hP, hK, hD0⟩ := hv
  have hx := BZ.exec
  have hb := BZ.bytes
  have hr := BZ.returns
  have hts : ∀ wZ ∈ sgT, wZ.before ([.ref m, .int (nI k), .int x, .int y] : List Value).toArray sZ = true := fun wZ h => atoms_spec (ws := (.code yX6_total cX6_total 4 (some .int) :: sgT)) BZ.pre wZ (List.mem_cons_of_mem _ h)
  have hown : sZ.vm.findClass RX6 = some mZ.cls := findClass_of_methodNamed BZ.named
  have hlocks := BZ.notSynchronized
  have hD : va_D (xA [(m, .inr (6, [.int (nI ord), .ref me, .int (nI ns), .ref ml, .ref mw, .int ev, .ref wa, .ref wb, .ref wf, .long y0, .long y1, .ref li])), (me, .inl (cI, 4, .inl ge)), (ml, .inl (cI, 9, .inl gL)), (mw, .inl (cI, 72, .inl gW)), (wa, .inl (cI, 72, .inl ga)), (wb, .inl (cI, 72, .inl gb)), (wf, .inl (cI, 72, .inl gf)), (li, .inl (cI, 240, .inl lim))]) [(m, .inr (6, [.int (nI ord), .ref me, .int (nI ns), .ref ml, .ref mw, .int ev, .ref wa, .ref wb, .ref wf, .long y0, .long y1, .ref li])), (me, .inl (cI, 4, .inl ge)), (ml, .inl (cI, 9, .inl gL)), (mw, .inl (cI, 72, .inl gW)), (wa, .inl (cI, 72, .inl ga)), (wb, .inl (cI, 72, .inl gb)), (wf, .inl (cI, 72, .inl gf)), (li, .inl (cI, 240, .inl lim))] := ⟨hD0.1, fun k q h => ⟨k, q.2, h⟩⟩
  generalize hAe : xA [(m, .inr (6, [.int (nI ord), .ref me, .int (nI ns), .ref ml, .ref mw, .int ev, .ref wa, .ref wb, .ref wf, .long y0, .long y1, .ref li])), (me, .inl (cI, 4, .inl ge)), (ml, .inl (cI, 9, .inl gL)), (mw, .inl (cI, 72, .inl gW)), (wa, .inl (cI, 72, .inl ga)), (wb, .inl (cI, 72, .inl gb)), (wf, .inl (cI, 72, .inl gf)), (li, .inl (cI, 240, .inl lim))] = A at hD ⊢
  have hS : va_S A sZ.heap sZ.heap [] := va_S.rf
  have hl := lv_entry ([.ref m, .int (nI k), .int x, .int y]) (n := 4) (Nat.le_of_ble_eq_true rfl)
  rw [lg_entry_eq]
  generalize (lg_sl ([.ref m, .int (nI k), .int x, .int y]) ++ List.replicate (4 - (lg_sl ([.ref m, .int (nI k), .int x, .int y])).length) Slot.unset).toArray = ls at hl ⊢
  have hl : lv_has ls 4 [(0, .ref m), (1, .int (nI k)), (2, .int x), (3, .int y)] := hl
  have hkI := sg_n (n := k) (by omega)
  have hyI : 2 ≤ k → y.toInt = (b : Int) := fun h => by rw [hy h]; exact sg_n (by omega)
  have hzI : 3 ≤ k → x.toInt = (a : Int) := fun h => by rw [hz h]; exact sg_n (by omega)
  have hB := rwS_bd hns hMm
  have hP : va_P D vwCl [(m, .inr (6, [.int (nI ord), .ref me, .int (nI ns), .ref ml, .ref mw, .int ev, .ref wa, .ref wb, .ref wf, .long y0, .long y1, .ref li])), (me, .inl (cI, 4, .inl ge)), (ml, .inl (cI, 9, .inl gL)), (mw, .inl (cI, 72, .inl gW)), (wa, .inl (cI, 72, .inl ga)), (wb, .inl (cI, 72, .inl gb)), (wf, .inl (cI, 72, .inl gf)), (li, .inl (cI, 240, .inl lim))] sZ.heap := hP
  refine lv_aload_n hx hb dX6_total_0 rfl (lv_at hl 0 rfl) ?_
  refine sg_callWv (fun u1 => [(m, .inr (6, [.int (nI ord), .ref me, .int (nI ns), .ref ml, .ref mw, .int (nI u1.1), .ref wa, .ref wb, .ref wf, .long y0, .long y1, .ref li])), (me, .inl (cI, 4, .inl ge)), (ml, .inl (cI, 9, .inl gL)), (mw, .inl (cI, 72, .inl gW)), (wa, .inl (cI, 72, .inl u1.2.1)), (wb, .inl (cI, 72, .inl u1.2.2.1)), (wf, .inl (cI, 72, .inl u1.2.2.2)), (li, .inl (cI, 240, .inl lim))]) [(true, 0), (true, 1), (true, 2), (true, 3), (true, 4), (true, 5), (true, 6), (true, 7)] (va_runV (As := []) (rest := []) (C := RX6) ⟨hx, hb, hml, hown, hts⟩ (c_X6_look l D cI cO m me ml mw wa wb wf li ord ns ev y0 y1 ge gL gW ga gb gf lim ln wd (by omega) hMm) ⟨(sg_cB 0 hts mcX6_look ml_X6_56 in_X6 rfl rfl (by decide +kernel) ⟨Nat.le_of_ble_eq_true rfl, Nat.le_of_ble_eq_true rfl⟩), hts _ im_X6_look, hts _ se_X6_look⟩ (sg_wV (q0 := 0) hK hP hD [0, 1, 2, 3, 4, 5, 6, 7] (by decide) rfl rfl rfl rfl) rfl rfl hl.1 rfl (lv_room (Nat.le_of_ble_eq_true rfl)) dX6_total_1 ⟨Nat.zero_le _, Nat.zero_le _⟩) hP hD hS [0, 1, 2, 3, 4, 5, 6, 7] rfl (fun _ => rfl) (by decide) (fun _ => rfl) (fun u1 H locs hw1 hP hD hS => ?_)
  have hw1 : sgEv (rwS ln wd ns) u1.2.1 u1.2.2.1 u1.2.2.2 u1.1 := hw1
  refine lv_aload_n hx hb dX6_total_4 rfl (lv_at hl 0 rfl) ?_
  refine lv_iload_n hx hb dX6_total_5 rfl (lv_at hl 1 rfl) ?_
  refine lv_iload_n hx hb dX6_total_6 rfl (lv_at hl 2 rfl) ?_
  refine lv_iload_n hx hb dX6_total_7 rfl (lv_at hl 3 rfl) ?_
  refine sg_callRi (va_runV (As := [.int (nI k), .int x, .int y]) (rest := []) (C := RX6) ⟨hx, hb, hml, hown, hts⟩ (c_X6_areSymbols l D cI cO m me ml mw wa wb wf li ord ns (nI u1.1) y0 y1 ge gL gW u1.2.1 u1.2.2.1 u1.2.2.2 lim (nI k) x y) ⟨(sg_cB 3 hts mcX6_areSymbols ml_X6_59 in_X6 rfl rfl (by decide +kernel) ⟨Nat.le_of_ble_eq_true rfl, Nat.le_of_ble_eq_true rfl⟩), hts _ im_X6_areSymbols, hts _ se_X6_areSymbols⟩ (sg_pV (q0 := 0) hK hP [0, 1, 2, 3, 4, 5, 6, 7] rfl rfl rfl rfl) rfl rfl hl.1 rfl (lv_room (Nat.le_of_ble_eq_true rfl)) dX6_total_8 ⟨Nat.zero_le _, Nat.zero_le _⟩) ?_
  refine ci_beq (P := ((1 ≤ (nI k).toInt ∧ (nI k).toInt ≤ 3) ∧ ((nI k).toInt < 2 ∨ (0 ≤ y.toInt ∧ y.toInt < 7)) ∧ ((nI k).toInt < 3 ∨ (0 ≤ x.toInt ∧ x.toInt < 7)))) (tgt := 24) hx hb dX6_total_11 rfl (fun h11 => by exfalso; omega) (fun h11 => ?_)
  refine lv_aload_n hx hb dX6_total_14 rfl (lv_at hl 0 rfl) ?_
  refine lv_iload_n hx hb dX6_total_15 rfl (lv_at hl 1 rfl) ?_
  refine lv_iload_n hx hb dX6_total_16 rfl (lv_at hl 2 rfl) ?_
  refine lv_iload_n hx hb dX6_total_17 rfl (lv_at hl 3 rfl) ?_
  refine sg_callRi (va_runV (As := [.int (nI k), .int x, .int y]) (rest := []) (C := RX6) ⟨hx, hb, hml, hown, hts⟩ (c_X6_totalOf l D cI cO m me ml mw wa wb wf li ord ns y0 y1 ge gL gW u1.2.1 u1.2.2.1 u1.2.2.2 lim u1.1 (rwS ln wd ns) k x y a b hw1 hB (by omega) (by omega) hy hz (by omega) (by omega)) ⟨(sg_cB 3 hts mcX6_totalOf ml_X6_66 in_X6 rfl rfl (by decide +kernel) ⟨Nat.le_of_ble_eq_true rfl, Nat.le_of_ble_eq_true rfl⟩), hts _ im_X6_totalOf, hts _ se_X6_totalOf⟩ (sg_pV (q0 := 0) hK hP [0, 1, 2, 3, 4, 5, 6, 7] rfl rfl rfl rfl) rfl rfl hl.1 rfl (lv_room (Nat.le_of_ble_eq_true rfl)) dX6_total_18 ⟨Nat.zero_le _, Nat.zero_le _⟩) ?_
  refine lv_goto (tgt := 25) hx hb dX6_total_21 rfl ?_
  exact W.iret hx hb hr (fun tZ ht hW => ⟨⟨_, u1, rfl, rfl, by show va_P D vwCl _ tZ.heap; rw [ht]; exact hP⟩, hS.F ht⟩) hS.2.2 dX6_total_25
set_option maxHeartbeats 4000000 in
set_option maxRecDepth 100000 in
theorem r_kinds_bad (l : Launch) (D : va_G) (cI cO : ClassId) (m : Nat) (me : Nat) (ml : Nat) (mw : Nat) (wa : Nat) (wb : Nat) (wf : Nat) (li : Nat) (ord : Nat) (ns : Nat) (ev : Int32) (y0 : Int64) (y1 : Int64) (ge : Nat → Int32) (gL : Nat → Int32) (gW : Nat → Int32) (ga : Nat → Int32) (gb : Nat → Int32) (gf : Nat → Int32) (lim : Nat → Int32) (ln : Nat → Nat) (wd : Nat → Nat → Nat) (k : Int32) (x : Int32) (y : Int32) (hns : ns ≤ 8) (hMm : sgMm ln wd ns gL gW) (hn : ¬ ((1 ≤ k.toInt ∧ k.toInt ≤ 3) ∧ (k.toInt < 2 ∨ (0 ≤ y.toInt ∧ y.toInt < 7)) ∧ (k.toInt < 3 ∨ (0 ≤ x.toInt ∧ x.toInt < 7)))) : Met l yX6_kinds (.code yX6_kinds cX6_kinds 4 (some .int) :: sgT) ({ frames := 3, cells := 0, slots := 0, locals := 79 }) (sgWc D cI cO [.ref m, .int k, .int x, .int y] [(m, .inr (6, [.int (nI ord), .ref me, .int (nI ns), .ref ml, .ref mw, .int ev, .ref wa, .ref wb, .ref wf, .long y0, .long y1, .ref li])), (me, .inl (cI, 4, .inl ge)), (ml, .inl (cI, 9, .inl gL)), (mw, .inl (cI, 72, .inl gW)), (wa, .inl (cI, 72, .inl ga)), (wb, .inl (cI, 72, .inl gb)), (wf, .inl (cI, 72, .inl gf)), (li, .inl (cI, 240, .inl lim))]) (va_Qi (fun (r : Int32) (uZ : Nat × (Nat → Int32) × (Nat → Int32) × (Nat → Int32)) => r = nI 0) (fun uZ t => va_P D vwCl [(m, .inr (6, [.int (nI ord), .ref me, .int (nI ns), .ref ml, .ref mw, .int (nI uZ.1), .ref wa, .ref wb, .ref wf, .long y0, .long y1, .ref li])), (me, .inl (cI, 4, .inl ge)), (ml, .inl (cI, 9, .inl gL)), (mw, .inl (cI, 72, .inl gW)), (wa, .inl (cI, 72, .inl uZ.2.1)), (wb, .inl (cI, 72, .inl uZ.2.2.1)), (wf, .inl (cI, 72, .inl uZ.2.2.2)), (li, .inl (cI, 240, .inl lim))] t.heap) (xA [(m, .inr (6, [.int (nI ord), .ref me, .int (nI ns), .ref ml, .ref mw, .int ev, .ref wa, .ref wb, .ref wf, .long y0, .long y1, .ref li])), (me, .inl (cI, 4, .inl ge)), (ml, .inl (cI, 9, .inl gL)), (mw, .inl (cI, 72, .inl gW)), (wa, .inl (cI, 72, .inl ga)), (wb, .inl (cI, 72, .inl gb)), (wf, .inl (cI, 72, .inl gf)), (li, .inl (cI, 240, .inl lim))])) 0 0 (xA [(m, .inr (6, [.int (nI ord), .ref me, .int (nI ns), .ref ml, .ref mw, .int ev, .ref wa, .ref wb, .ref wf, .long y0, .long y1, .ref li])), (me, .inl (cI, 4, .inl ge)), (ml, .inl (cI, 9, .inl gL)), (mw, .inl (cI, 72, .inl gW)), (wa, .inl (cI, 72, .inl ga)), (wb, .inl (cI, 72, .inl gb)), (wf, .inl (cI, 72, .inl gf)), (li, .inl (cI, 240, .inl lim))]) := by
  refine Met.ofW (cc := cX6_kinds) (maxL := 4) (ret := (some .int)) (by decide) rfl ?_
  intro pZ eZ sZ mZ argsZ belowZ methZ cZ s₁ BZ hml hv
  obtain ⟨rfl, hP, hK, hD0⟩ := hv
  have hx := BZ.exec
  have hb := BZ.bytes
  have hr := BZ.returns
  have hts : ∀ wZ ∈ sgT, wZ.before ([.ref m, .int k, .int x, .int y] : List Value).toArray sZ = true := fun wZ h => atoms_spec (ws := (.code yX6_kinds cX6_kinds 4 (some .int) :: sgT)) BZ.pre wZ (List.mem_cons_of_mem _ h)
  have hown : sZ.vm.findClass RX6 = some mZ.cls := findClass_of_methodNamed BZ.named
  have hlocks := BZ.notSynchronized
  have hD : va_D (xA [(m, .inr (6, [.int (nI ord), .ref me, .int (nI ns), .ref ml, .ref mw, .int ev, .ref wa, .ref wb, .ref wf, .long y0, .long y1, .ref li])), (me, .inl (cI, 4, .inl ge)), (ml, .inl (cI, 9, .inl gL)), (mw, .inl (cI, 72, .inl gW)), (wa, .inl (cI, 72, .inl ga)), (wb, .inl (cI, 72, .inl gb)), (wf, .inl (cI, 72, .inl gf)), (li, .inl (cI, 240, .inl lim))]) [(m, .inr (6, [.int (nI ord), .ref me, .int (nI ns), .ref ml, .ref mw, .int ev, .ref wa, .ref wb, .ref wf, .long y0, .long y1, .ref li])), (me, .inl (cI, 4, .inl ge)), (ml, .inl (cI, 9, .inl gL)), (mw, .inl (cI, 72, .inl gW)), (wa, .inl (cI, 72, .inl ga)), (wb, .inl (cI, 72, .inl gb)), (wf, .inl (cI, 72, .inl gf)), (li, .inl (cI, 240, .inl lim))] := ⟨hD0.1, fun k q h => ⟨k, q.2, h⟩⟩
  generalize hAe : xA [(m, .inr (6, [.int (nI ord), .ref me, .int (nI ns), .ref ml, .ref mw, .int ev, .ref wa, .ref wb, .ref wf, .long y0, .long y1, .ref li])), (me, .inl (cI, 4, .inl ge)), (ml, .inl (cI, 9, .inl gL)), (mw, .inl (cI, 72, .inl gW)), (wa, .inl (cI, 72, .inl ga)), (wb, .inl (cI, 72, .inl gb)), (wf, .inl (cI, 72, .inl gf)), (li, .inl (cI, 240, .inl lim))] = A at hD ⊢
  have hS : va_S A sZ.heap sZ.heap [] := va_S.rf
  have hl := lv_entry ([.ref m, .int k, .int x, .int y]) (n := 4) (Nat.le_of_ble_eq_true rfl)
  rw [lg_entry_eq]
  generalize (lg_sl ([.ref m, .int k, .int x, .int y]) ++ List.replicate (4 - (lg_sl ([.ref m, .int k, .int x, .int y])).length) Slot.unset).toArray = ls at hl ⊢
  have hl : lv_has ls 4 [(0, .ref m), (1, .int k), (2, .int x), (3, .int y)] := hl
  have hP : va_P D vwCl [(m, .inr (6, [.int (nI ord), .ref me, .int (nI ns), .ref ml, .ref mw, .int ev, .ref wa, .ref wb, .ref wf, .long y0, .long y1, .ref li])), (me, .inl (cI, 4, .inl ge)), (ml, .inl (cI, 9, .inl gL)), (mw, .inl (cI, 72, .inl gW)), (wa, .inl (cI, 72, .inl ga)), (wb, .inl (cI, 72, .inl gb)), (wf, .inl (cI, 72, .inl gf)), (li, .inl (cI, 240, .inl lim))] sZ.heap := hP
  refine lv_aload_n hx hb dX6_kinds_0 rfl (lv_at hl 0 rfl) ?_
  refine sg_callWv (fun u1 => [(m, .inr (6, [.int (nI ord), .ref me, .int (nI ns), .ref ml, .ref mw, .int (nI u1.1), .ref wa, .ref wb, .ref wf, .long y0, .long y1, .ref li])), (me, .inl (cI, 4, .inl ge)), (ml, .inl (cI, 9, .inl gL)), (mw, .inl (cI, 72, .inl gW)), (wa, .inl (cI, 72, .inl u1.2.1)), (wb, .inl (cI, 72, .inl u1.2.2.1)), (wf, .inl (cI, 72, .inl u1.2.2.2)), (li, .inl (cI, 240, .inl lim))]) [(true, 0), (true, 1), (true, 2), (true, 3), (true, 4), (true, 5), (true, 6), (true, 7)] (va_runV (As := []) (rest := []) (C := RX6) ⟨hx, hb, hml, hown, hts⟩ (c_X6_look l D cI cO m me ml mw wa wb wf li ord ns ev y0 y1 ge gL gW ga gb gf lim ln wd (by omega) hMm) ⟨(sg_cB 0 hts mcX6_look ml_X6_56 in_X6 rfl rfl (by decide +kernel) ⟨Nat.le_of_ble_eq_true rfl, Nat.le_of_ble_eq_true rfl⟩), hts _ im_X6_look, hts _ se_X6_look⟩ (sg_wV (q0 := 0) hK hP hD [0, 1, 2, 3, 4, 5, 6, 7] (by decide) rfl rfl rfl rfl) rfl rfl hl.1 rfl (lv_room (Nat.le_of_ble_eq_true rfl)) dX6_kinds_1 ⟨Nat.zero_le _, Nat.zero_le _⟩) hP hD hS [0, 1, 2, 3, 4, 5, 6, 7] rfl (fun _ => rfl) (by decide) (fun _ => rfl) (fun u1 H locs hw1 hP hD hS => ?_)
  refine lv_aload_n hx hb dX6_kinds_4 rfl (lv_at hl 0 rfl) ?_
  refine lv_iload_n hx hb dX6_kinds_5 rfl (lv_at hl 1 rfl) ?_
  refine lv_iload_n hx hb dX6_kinds_6 rfl (lv_at hl 2 rfl) ?_
  refine lv_iload_n hx hb dX6_kinds_7 rfl (lv_at hl 3 rfl) ?_
  refine sg_callRi (va_runV (As := [.int k, .int x, .int y]) (rest := []) (C := RX6) ⟨hx, hb, hml, hown, hts⟩ (c_X6_areSymbols l D cI cO m me ml mw wa wb wf li ord ns (nI u1.1) y0 y1 ge gL gW u1.2.1 u1.2.2.1 u1.2.2.2 lim k x y) ⟨(sg_cB 3 hts mcX6_areSymbols ml_X6_59 in_X6 rfl rfl (by decide +kernel) ⟨Nat.le_of_ble_eq_true rfl, Nat.le_of_ble_eq_true rfl⟩), hts _ im_X6_areSymbols, hts _ se_X6_areSymbols⟩ (sg_pV (q0 := 0) hK hP [0, 1, 2, 3, 4, 5, 6, 7] rfl rfl rfl rfl) rfl rfl hl.1 rfl (lv_room (Nat.le_of_ble_eq_true rfl)) dX6_kinds_8 ⟨Nat.zero_le _, Nat.zero_le _⟩) ?_
  refine ci_beq (P := ((1 ≤ k.toInt ∧ k.toInt ≤ 3) ∧ (k.toInt < 2 ∨ (0 ≤ y.toInt ∧ y.toInt < 7)) ∧ (k.toInt < 3 ∨ (0 ≤ x.toInt ∧ x.toInt < 7)))) (tgt := 24) hx hb dX6_kinds_11 rfl (fun h11 => ?_) (fun h11 => by exfalso; omega)
  refine lv_iconst (v := nI 0) hx hb dX6_kinds_24 (by decide) ?_
  exact W.iret hx hb hr (fun tZ ht hW => ⟨⟨_, u1, rfl, rfl, by show va_P D vwCl _ tZ.heap; rw [ht]; exact hP⟩, hS.F ht⟩) hS.2.2 dX6_kinds_25
set_option maxHeartbeats 4000000 in
set_option maxRecDepth 100000 in
theorem c_X6_kinds (l : Launch) (D : va_G) (cI cO : ClassId) (m : Nat) (me : Nat) (ml : Nat) (mw : Nat) (wa : Nat) (wb : Nat) (wf : Nat) (li : Nat) (ord : Nat) (ns : Nat) (ev : Int32) (y0 : Int64) (y1 : Int64) (ge : Nat → Int32) (gL : Nat → Int32) (gW : Nat → Int32) (ga : Nat → Int32) (gb : Nat → Int32) (gf : Nat → Int32) (lim : Nat → Int32) (ln : Nat → Nat) (wd : Nat → Nat → Nat) (k : Nat) (x : Int32) (y : Int32) (a : Nat) (b : Nat) (hns : ns ≤ 8) (hMm : sgMm ln wd ns gL gW) (ho : 1 ≤ ord ∧ ord ≤ 3) (hk : 1 ≤ k ∧ k ≤ 3) (hy : 2 ≤ k → y = nI b) (hz : 3 ≤ k → x = nI a) (ha : a < 7) (hbb : b < 7) : Met l yX6_kinds (.code yX6_kinds cX6_kinds 4 (some .int) :: sgT) ({ frames := 3, cells := 0, slots := 0, locals := 79 }) (sgWc D cI cO [.ref m, .int (nI k), .int x, .int y] [(m, .inr (6, [.int (nI ord), .ref me, .int (nI ns), .ref ml, .ref mw, .int ev, .ref wa, .ref wb, .ref wf, .long y0, .long y1, .ref li])), (me, .inl (cI, 4, .inl ge)), (ml, .inl (cI, 9, .inl gL)), (mw, .inl (cI, 72, .inl gW)), (wa, .inl (cI, 72, .inl ga)), (wb, .inl (cI, 72, .inl gb)), (wf, .inl (cI, 72, .inl gf)), (li, .inl (cI, 240, .inl lim))]) (va_Qi (fun (r : Int32) (uZ : Nat × (Nat → Int32) × (Nat → Int32) × (Nat → Int32)) => r = nI (sgKin (rwS ln wd ns) ord k a b 6)) (fun uZ t => va_P D vwCl [(m, .inr (6, [.int (nI ord), .ref me, .int (nI ns), .ref ml, .ref mw, .int (nI uZ.1), .ref wa, .ref wb, .ref wf, .long y0, .long y1, .ref li])), (me, .inl (cI, 4, .inl ge)), (ml, .inl (cI, 9, .inl gL)), (mw, .inl (cI, 72, .inl gW)), (wa, .inl (cI, 72, .inl uZ.2.1)), (wb, .inl (cI, 72, .inl uZ.2.2.1)), (wf, .inl (cI, 72, .inl uZ.2.2.2)), (li, .inl (cI, 240, .inl lim))] t.heap) (xA [(m, .inr (6, [.int (nI ord), .ref me, .int (nI ns), .ref ml, .ref mw, .int ev, .ref wa, .ref wb, .ref wf, .long y0, .long y1, .ref li])), (me, .inl (cI, 4, .inl ge)), (ml, .inl (cI, 9, .inl gL)), (mw, .inl (cI, 72, .inl gW)), (wa, .inl (cI, 72, .inl ga)), (wb, .inl (cI, 72, .inl gb)), (wf, .inl (cI, 72, .inl gf)), (li, .inl (cI, 240, .inl lim))])) 0 0 (xA [(m, .inr (6, [.int (nI ord), .ref me, .int (nI ns), .ref ml, .ref mw, .int ev, .ref wa, .ref wb, .ref wf, .long y0, .long y1, .ref li])), (me, .inl (cI, 4, .inl ge)), (ml, .inl (cI, 9, .inl gL)), (mw, .inl (cI, 72, .inl gW)), (wa, .inl (cI, 72, .inl ga)), (wb, .inl (cI, 72, .inl gb)), (wf, .inl (cI, 72, .inl gf)), (li, .inl (cI, 240, .inl lim))]) := by
  refine Met.ofW (cc := cX6_kinds) (maxL := 4) (ret := (some .int)) (by decide) rfl ?_
  intro pZ eZ sZ mZ argsZ belowZ methZ cZ s₁ BZ hml hv
  obtain ⟨rfl, hP, hK, hD0⟩ := hv
  have hx := BZ.exec
  have hb := BZ.bytes
  have hr := BZ.returns
  have hts : ∀ wZ ∈ sgT, wZ.before ([.ref m, .int (nI k), .int x, .int y] : List Value).toArray sZ = true := fun wZ h => atoms_spec (ws := (.code yX6_kinds cX6_kinds 4 (some .int) :: sgT)) BZ.pre wZ (List.mem_cons_of_mem _ h)
  have hown : sZ.vm.findClass RX6 = some mZ.cls := findClass_of_methodNamed BZ.named
  have hlocks := BZ.notSynchronized
  have hD : va_D (xA [(m, .inr (6, [.int (nI ord), .ref me, .int (nI ns), .ref ml, .ref mw, .int ev, .ref wa, .ref wb, .ref wf, .long y0, .long y1, .ref li])), (me, .inl (cI, 4, .inl ge)), (ml, .inl (cI, 9, .inl gL)), (mw, .inl (cI, 72, .inl gW)), (wa, .inl (cI, 72, .inl ga)), (wb, .inl (cI, 72, .inl gb)), (wf, .inl (cI, 72, .inl gf)), (li, .inl (cI, 240, .inl lim))]) [(m, .inr (6, [.int (nI ord), .ref me, .int (nI ns), .ref ml, .ref mw, .int ev, .ref wa, .ref wb, .ref wf, .long y0, .long y1, .ref li])), (me, .inl (cI, 4, .inl ge)), (ml, .inl (cI, 9, .inl gL)), (mw, .inl (cI, 72, .inl gW)), (wa, .inl (cI, 72, .inl ga)), (wb, .inl (cI, 72, .inl gb)), (wf, .inl (cI, 72, .inl gf)), (li, .inl (cI, 240, .inl lim))] := ⟨hD0.1, fun k q h => ⟨k, q.2, h⟩⟩
  generalize hAe : xA [(m, .inr (6, [.int (nI ord), .ref me, .int (nI ns), .ref ml, .ref mw, .int ev, .ref wa, .ref wb, .ref wf, .long y0, .long y1, .ref li])), (me, .inl (cI, 4, .inl ge)), (ml, .inl (cI, 9, .inl gL)), (mw, .inl (cI, 72, .inl gW)), (wa, .inl (cI, 72, .inl ga)), (wb, .inl (cI, 72, .inl gb)), (wf, .inl (cI, 72, .inl gf)), (li, .inl (cI, 240, .inl lim))] = A at hD ⊢
  have hS : va_S A sZ.heap sZ.heap [] := va_S.rf
  have hl := lv_entry ([.ref m, .int (nI k), .int x, .int y]) (n := 4) (Nat.le_of_ble_eq_true rfl)
  rw [lg_entry_eq]
  generalize (lg_sl ([.ref m, .int (nI k), .int x, .int y]) ++ List.replicate (4 - (lg_sl ([.ref m, .int (nI k), .int x, .int y])).length) Slot.unset).toArray = ls at hl ⊢
  have hl : lv_has ls 4 [(0, .ref m), (1, .int (nI k)), (2, .int x), (3, .int y)] := hl
  have hkI := sg_n (n := k) (by omega)
  have hyI : 2 ≤ k → y.toInt = (b : Int) := fun h => by rw [hy h]; exact sg_n (by omega)
  have hzI : 3 ≤ k → x.toInt = (a : Int) := fun h => by rw [hz h]; exact sg_n (by omega)
  have hB := rwS_bd hns hMm
  have hP : va_P D vwCl [(m, .inr (6, [.int (nI ord), .ref me, .int (nI ns), .ref ml, .ref mw, .int ev, .ref wa, .ref wb, .ref wf, .long y0, .long y1, .ref li])), (me, .inl (cI, 4, .inl ge)), (ml, .inl (cI, 9, .inl gL)), (mw, .inl (cI, 72, .inl gW)), (wa, .inl (cI, 72, .inl ga)), (wb, .inl (cI, 72, .inl gb)), (wf, .inl (cI, 72, .inl gf)), (li, .inl (cI, 240, .inl lim))] sZ.heap := hP
  refine lv_aload_n hx hb dX6_kinds_0 rfl (lv_at hl 0 rfl) ?_
  refine sg_callWv (fun u1 => [(m, .inr (6, [.int (nI ord), .ref me, .int (nI ns), .ref ml, .ref mw, .int (nI u1.1), .ref wa, .ref wb, .ref wf, .long y0, .long y1, .ref li])), (me, .inl (cI, 4, .inl ge)), (ml, .inl (cI, 9, .inl gL)), (mw, .inl (cI, 72, .inl gW)), (wa, .inl (cI, 72, .inl u1.2.1)), (wb, .inl (cI, 72, .inl u1.2.2.1)), (wf, .inl (cI, 72, .inl u1.2.2.2)), (li, .inl (cI, 240, .inl lim))]) [(true, 0), (true, 1), (true, 2), (true, 3), (true, 4), (true, 5), (true, 6), (true, 7)] (va_runV (As := []) (rest := []) (C := RX6) ⟨hx, hb, hml, hown, hts⟩ (c_X6_look l D cI cO m me ml mw wa wb wf li ord ns ev y0 y1 ge gL gW ga gb gf lim ln wd (by omega) hMm) ⟨(sg_cB 0 hts mcX6_look ml_X6_56 in_X6 rfl rfl (by decide +kernel) ⟨Nat.le_of_ble_eq_true rfl, Nat.le_of_ble_eq_true rfl⟩), hts _ im_X6_look, hts _ se_X6_look⟩ (sg_wV (q0 := 0) hK hP hD [0, 1, 2, 3, 4, 5, 6, 7] (by decide) rfl rfl rfl rfl) rfl rfl hl.1 rfl (lv_room (Nat.le_of_ble_eq_true rfl)) dX6_kinds_1 ⟨Nat.zero_le _, Nat.zero_le _⟩) hP hD hS [0, 1, 2, 3, 4, 5, 6, 7] rfl (fun _ => rfl) (by decide) (fun _ => rfl) (fun u1 H locs hw1 hP hD hS => ?_)
  have hw1 : sgEv (rwS ln wd ns) u1.2.1 u1.2.2.1 u1.2.2.2 u1.1 := hw1
  refine lv_aload_n hx hb dX6_kinds_4 rfl (lv_at hl 0 rfl) ?_
  refine lv_iload_n hx hb dX6_kinds_5 rfl (lv_at hl 1 rfl) ?_
  refine lv_iload_n hx hb dX6_kinds_6 rfl (lv_at hl 2 rfl) ?_
  refine lv_iload_n hx hb dX6_kinds_7 rfl (lv_at hl 3 rfl) ?_
  refine sg_callRi (va_runV (As := [.int (nI k), .int x, .int y]) (rest := []) (C := RX6) ⟨hx, hb, hml, hown, hts⟩ (c_X6_areSymbols l D cI cO m me ml mw wa wb wf li ord ns (nI u1.1) y0 y1 ge gL gW u1.2.1 u1.2.2.1 u1.2.2.2 lim (nI k) x y) ⟨(sg_cB 3 hts mcX6_areSymbols ml_X6_59 in_X6 rfl rfl (by decide +kernel) ⟨Nat.le_of_ble_eq_true rfl, Nat.le_of_ble_eq_true rfl⟩), hts _ im_X6_areSymbols, hts _ se_X6_areSymbols⟩ (sg_pV (q0 := 0) hK hP [0, 1, 2, 3, 4, 5, 6, 7] rfl rfl rfl rfl) rfl rfl hl.1 rfl (lv_room (Nat.le_of_ble_eq_true rfl)) dX6_kinds_8 ⟨Nat.zero_le _, Nat.zero_le _⟩) ?_
  refine ci_beq (P := ((1 ≤ (nI k).toInt ∧ (nI k).toInt ≤ 3) ∧ ((nI k).toInt < 2 ∨ (0 ≤ y.toInt ∧ y.toInt < 7)) ∧ ((nI k).toInt < 3 ∨ (0 ≤ x.toInt ∧ x.toInt < 7)))) (tgt := 24) hx hb dX6_kinds_11 rfl (fun h11 => by exfalso; omega) (fun h11 => ?_)
  refine lv_aload_n hx hb dX6_kinds_14 rfl (lv_at hl 0 rfl) ?_
  refine lv_iload_n hx hb dX6_kinds_15 rfl (lv_at hl 1 rfl) ?_
  refine lv_iload_n hx hb dX6_kinds_16 rfl (lv_at hl 2 rfl) ?_
  refine lv_iload_n hx hb dX6_kinds_17 rfl (lv_at hl 3 rfl) ?_
  refine sg_callRi (va_runV (As := [.int (nI k), .int x, .int y]) (rest := []) (C := RX6) ⟨hx, hb, hml, hown, hts⟩ (c_X6_kindsOf l D cI cO m me ml mw wa wb wf li ord ns y0 y1 ge gL gW u1.2.1 u1.2.2.1 u1.2.2.2 lim u1.1 (rwS ln wd ns) k x y a b hw1 hB (by omega) (by omega) hy hz (by omega) (by omega)) ⟨(sg_cB 3 hts mcX6_kindsOf ml_X6_70 in_X6 rfl rfl (by decide +kernel) ⟨Nat.le_of_ble_eq_true rfl, Nat.le_of_ble_eq_true rfl⟩), hts _ im_X6_kindsOf, hts _ se_X6_kindsOf⟩ (sg_pV (q0 := 0) hK hP [0, 1, 2, 3, 4, 5, 6, 7] rfl rfl rfl rfl) rfl rfl hl.1 rfl (lv_room (Nat.le_of_ble_eq_true rfl)) dX6_kinds_18 ⟨Nat.zero_le _, Nat.zero_le _⟩) ?_
  refine lv_goto (tgt := 25) hx hb dX6_kinds_21 rfl ?_
  exact W.iret hx hb hr (fun tZ ht hW => ⟨⟨_, u1, rfl, rfl, by show va_P D vwCl _ tZ.heap; rw [ht]; exact hP⟩, hS.F ht⟩) hS.2.2 dX6_kinds_25
set_option maxHeartbeats 4000000 in
set_option maxRecDepth 100000 in
theorem c_X6_gramOf (l : Launch) (D : va_G) (cI cO : ClassId) (m : Nat) (me : Nat) (ml : Nat) (mw : Nat) (wa : Nat) (wb : Nat) (wf : Nat) (li : Nat) (ord : Nat) (ns : Nat) (y0 : Int64) (y1 : Int64) (ge : Nat → Int32) (gL : Nat → Int32) (gW : Nat → Int32) (ga : Nat → Int32) (gb : Nat → Int32) (gf : Nat → Int32) (lim : Nat → Int32) (E : Nat) (rw : Nat → Nat → Nat → Nat → Nat) (k : Nat) (i : Int32) (hEv : sgEv rw ga gb gf E) (hB : sgBd rw) (ho : 1 ≤ ord ∧ ord ≤ 3) (hk : 1 ≤ k ∧ k ≤ 3) (hi0 : 0 ≤ i.toInt) : Met l yX6_gramOf (.code yX6_gramOf cX6_gramOf 6 (some .int) :: sgT) ({ frames := 2, cells := 0, slots := 0, locals := 54 }) (sgPc D cI cO [.ref m, .int (nI k), .int i] [(m, .inr (6, [.int (nI ord), .ref me, .int (nI ns), .ref ml, .ref mw, .int (nI E), .ref wa, .ref wb, .ref wf, .long y0, .long y1, .ref li])), (me, .inl (cI, 4, .inl ge)), (ml, .inl (cI, 9, .inl gL)), (mw, .inl (cI, 72, .inl gW)), (wa, .inl (cI, 72, .inl ga)), (wb, .inl (cI, 72, .inl gb)), (wf, .inl (cI, 72, .inl gf)), (li, .inl (cI, 240, .inl lim))]) (vp_Si (fun r => r = sgFd rw ord k i (sgAll k) 0 0)) 0 0 (fun _ => False) := by
  refine Met.ofW (cc := cX6_gramOf) (maxL := 6) (ret := (some .int)) (by decide) rfl ?_
  intro pZ eZ sZ mZ argsZ belowZ methZ cZ s₁ BZ hml hv
  obtain ⟨rfl, hP, hK⟩ := hv
  have hx := BZ.exec
  have hb := BZ.bytes
  have hr := BZ.returns
  have hts : ∀ wZ ∈ sgT, wZ.before ([.ref m, .int (nI k), .int i] : List Value).toArray sZ = true := fun wZ h => atoms_spec (ws := (.code yX6_gramOf cX6_gramOf 6 (some .int) :: sgT)) BZ.pre wZ (List.mem_cons_of_mem _ h)
  have hown : sZ.vm.findClass RX6 = some mZ.cls := findClass_of_methodNamed BZ.named
  have hlocks := BZ.notSynchronized
  have hl := lv_entry ([.ref m, .int (nI k), .int i]) (n := 6) (Nat.le_of_ble_eq_true rfl)
  rw [lg_entry_eq]
  generalize (lg_sl ([.ref m, .int (nI k), .int i]) ++ List.replicate (6 - (lg_sl ([.ref m, .int (nI k), .int i])).length) Slot.unset).toArray = ls at hl ⊢
  have hl : lv_has ls 6 [(0, .ref m), (1, .int (nI k)), (2, .int i)] := hl
  have hAl := sgAll_le k
  refine lv_iconst (v := nI 0) hx hb dX6_gramOf_0 (by decide) ?_
  refine lv_istore_n hx hb dX6_gramOf_1 rfl hl (by decide) rfl (fun ls hl => ?_)
  have hl : lv_has ls 6 [(3, .int (nI 0)), (0, .ref m), (1, .int (nI k)), (2, .int i)] := hl
  refine sw_cutR 25 (I := fun st ls => ∃ (q : Nat), st = [.int (nI q)] ∧ lv_has ls 6 [(3, .int (nI 0)), (0, .ref m), (1, .int (nI k)), (2, .int i)] ∧ (q = sgAll k)) ?_ (fun cu25 => ?_)
  · intro st ls hI
    obtain ⟨q, rfl, hl, hq⟩ := hI
    refine lv_istore hx hb dX6_gramOf_25 hl (by decide) rfl (fun ls hl => ?_)
    have hl : lv_has ls 6 [(4, .int (nI q)), (3, .int (nI 0)), (0, .ref m), (1, .int (nI k)), (2, .int i)] := hl
    refine lv_iconst (v := nI 0) hx hb dX6_gramOf_27 (by decide) ?_
    refine lv_istore hx hb dX6_gramOf_28 hl (by decide) rfl (fun ls hl => ?_)
    have hl : lv_has ls 6 [(5, .int (nI 0)), (4, .int (nI q)), (3, .int (nI 0)), (0, .ref m), (1, .int (nI k)), (2, .int i)] := hl
    refine sw_loopR (I := fun kM ls => ∃ (g : Nat) (n : Nat), kM = sgAll k - g ∧ lv_has ls 6 [(5, .int (nI g)), (4, .int (nI q)), (3, .int (nI n)), (0, .ref m), (1, .int (nI k)), (2, .int i)] ∧ (g ≤ sgAll k) ∧ (n ≤ g) ∧ (sgFd rw ord k i (sgAll k) 0 0 = sgFd rw ord k i (sgAll k - g) g n)) ?_ _ ⟨0, 0, rfl, hl, by omega, by omega, rfl⟩
    intro kM ls hI ih30
    obtain ⟨g, n, hkM, hl, hi, hng, hf⟩ := hI
    refine lv_iload hx hb dX6_gramOf_30 (lv_at hl 0 rfl) ?_
    refine lv_iload hx hb dX6_gramOf_32 (lv_at hl 1 rfl) ?_
    refine ci_icmp_ge (X := ((g : Nat) : Int)) (Y := ((q : Nat) : Int)) (tgt := 81) hx hb (sg_n (by omega)) (sg_n (by omega)) dX6_gramOf_34 rfl (fun h34 => ?_) (fun h34 => ?_)
    · refine lv_iload_n hx hb dX6_gramOf_81 rfl (lv_at hl 5 rfl) ?_
      refine ci_if_ge (X := i.toInt) (tgt := 89) hx hb rfl dX6_gramOf_82 rfl (fun h82 => ?_) (fun h82 => by exfalso; omega)
      refine lv_iconst (v := -1) hx hb dX6_gramOf_89 (by decide) ?_
      exact W.iret hx hb hr (fun tZ ht hW => ⟨_, rfl, (by rw [hf]; exact (sgFd_end (by omega)).symm), ht⟩) (fun q h => by cases h) dX6_gramOf_90
    · refine lv_aload_n hx hb dX6_gramOf_37 rfl (lv_at hl 3 rfl) ?_
      refine lv_iload_n hx hb dX6_gramOf_38 rfl (lv_at hl 4 rfl) ?_
      refine lv_iload hx hb dX6_gramOf_39 (lv_at hl 0 rfl) ?_
      refine lv_bipush (v := nI 49) hx hb dX6_gramOf_41 (by decide) ?_
      refine n_idiv hx hb dX6_gramOf_43 (by omega) (by omega) (by omega) ?_
      refine lv_iload hx hb dX6_gramOf_44 (lv_at hl 0 rfl) ?_
      refine lv_bipush (v := nI 7) hx hb dX6_gramOf_46 (by decide) ?_
      refine n_idiv hx hb dX6_gramOf_48 (by omega) (by omega) (by omega) ?_
      refine lv_bipush (v := nI 7) hx hb dX6_gramOf_49 (by decide) ?_
      refine n_irem hx hb dX6_gramOf_51 (by omega) (by omega) (by omega) ?_
      refine lv_iload hx hb dX6_gramOf_52 (lv_at hl 0 rfl) ?_
      refine lv_bipush (v := nI 7) hx hb dX6_gramOf_54 (by decide) ?_
      refine n_irem hx hb dX6_gramOf_56 (by omega) (by omega) (by omega) ?_
      refine sg_callRi (va_runV (As := [.int (nI k), .int (nI (g / 49)), .int (nI ((g / 7) % 7)), .int (nI (g % 7))]) (rest := []) (C := RX6) ⟨hx, hb, hml, hown, hts⟩ (c_X6_countOf l D cI cO m me ml mw wa wb wf li ord ns y0 y1 ge gL gW ga gb gf lim E rw k (nI (g / 49)) (nI ((g / 7) % 7)) (g / 49) (g / 7 % 7) (g % 7) hEv hB (by omega) (by omega) (fun _ => rfl) (fun _ => rfl) (by omega) (by omega) (by omega)) ⟨(sg_cB 4 hts mcX6_countOf ml_X6_63 in_X6 rfl rfl (by decide +kernel) ⟨Nat.le_of_ble_eq_true rfl, Nat.le_of_ble_eq_true rfl⟩), hts _ im_X6_countOf, hts _ se_X6_countOf⟩ (sg_pV (q0 := 0) hK hP [0, 1, 2, 3, 4, 5, 6, 7] rfl rfl rfl rfl) rfl rfl hl.1 rfl (lv_room (Nat.le_of_ble_eq_true rfl)) dX6_gramOf_57 ⟨Nat.zero_le _, Nat.zero_le _⟩) ?_
      refine sw_i (y := nI (sgCg rw ord k g)) rfl ?_
      have hv := sgCg_le hB ord k g
      refine ci_if_le (X := ((sgCg rw ord k g : Nat) : Int)) (tgt := 75) hx hb (sg_n (by omega)) dX6_gramOf_60 rfl (fun h60 => ?_) (fun h60 => ?_)
      · refine lv_iinc (v := nI (g + 1)) hx hb dX6_gramOf_75 hl (k := 0) rfl (sg_inc _) (by decide) rfl (fun ls hl => ?_)
        have hl : lv_has ls 6 [(5, .int (nI (g + 1))), (4, .int (nI q)), (3, .int (nI n)), (0, .ref m), (1, .int (nI k)), (2, .int i)] := hl
        refine lv_goto (tgt := 30) hx hb dX6_gramOf_78 rfl ?_
        exact ih30 _ _ ⟨g + 1, n, rfl, lv_sub hl [0, 1, 2, 3, 4, 5] rfl, by omega, by omega, by first | exact hf.trans (sgFd_next (by omega) (by omega) (fun q => h65 (by rw [← q]; exact (sg_n (by omega)).symm))) | exact hf.trans (sgFd_skip (by omega) (by omega))⟩ (by omega)
      · refine lv_iload_n hx hb dX6_gramOf_63 rfl (lv_at hl 2 rfl) ?_
        refine lv_iload_n hx hb dX6_gramOf_64 rfl (lv_at hl 5 rfl) ?_
        refine ci_icmp_ne (X := ((n : Nat) : Int)) (Y := i.toInt) (tgt := 71) hx hb (sg_n (by omega)) rfl dX6_gramOf_65 rfl (fun h65 => ?_) (fun h65 => ?_)
        · refine lv_iload_n hx hb dX6_gramOf_71 rfl (lv_at hl 2 rfl) ?_
          refine lv_iconst (v := nI 1) hx hb dX6_gramOf_72 (by decide) ?_
          refine n_iadd hx hb dX6_gramOf_73 ?_
          refine lv_istore_n hx hb dX6_gramOf_74 rfl hl (by decide) rfl (fun ls hl => ?_)
          have hl : lv_has ls 6 [(3, .int (nI (n + 1))), (5, .int (nI g)), (4, .int (nI q)), (0, .ref m), (1, .int (nI k)), (2, .int i)] := hl
          refine lv_iinc (v := nI (g + 1)) hx hb dX6_gramOf_75 hl (k := 1) rfl (sg_inc _) (by decide) rfl (fun ls hl => ?_)
          have hl : lv_has ls 6 [(5, .int (nI (g + 1))), (3, .int (nI (n + 1))), (4, .int (nI q)), (0, .ref m), (1, .int (nI k)), (2, .int i)] := hl
          refine lv_goto (tgt := 30) hx hb dX6_gramOf_78 rfl ?_
          exact ih30 _ _ ⟨g + 1, n + 1, rfl, lv_sub hl [0, 2, 1, 3, 4, 5] rfl, by omega, by omega, by first | exact hf.trans (sgFd_next (by omega) (by omega) (fun q => h65 (by rw [← q]; exact (sg_n (by omega)).symm))) | exact hf.trans (sgFd_skip (by omega) (by omega))⟩ (by omega)
        · refine lv_iload hx hb dX6_gramOf_68 (lv_at hl 0 rfl) ?_
          exact W.iret hx hb hr (fun tZ ht hW => ⟨_, rfl, (by rw [hf]; exact (sgFd_hit (by omega) (by omega) (Int32.toInt_inj.mp (by have h9 := sg_n (n := n) (by omega); omega))).symm), ht⟩) (fun q h => by cases h) dX6_gramOf_70
  refine lv_iload_n hx hb dX6_gramOf_2 rfl (lv_at hl 2 rfl) ?_
  refine lv_iconst (v := nI 1) hx hb dX6_gramOf_3 (by decide) ?_
  refine ci_icmp_ne (X := ((k : Nat) : Int)) (Y := ((1 : Nat) : Int)) (tgt := 12) hx hb (sg_n (by omega)) (sg_n (by omega)) dX6_gramOf_4 rfl (fun h4 => ?_) (fun h4 => ?_)
  · refine lv_iload_n hx hb dX6_gramOf_12 rfl (lv_at hl 2 rfl) ?_
    refine lv_iconst (v := nI 2) hx hb dX6_gramOf_13 (by decide) ?_
    refine ci_icmp_ne (X := ((k : Nat) : Int)) (Y := ((2 : Nat) : Int)) (tgt := 22) hx hb (sg_n (by omega)) (sg_n (by omega)) dX6_gramOf_14 rfl (fun h14 => ?_) (fun h14 => ?_)
    · refine lv_sipush (v := nI 343) hx hb dX6_gramOf_22 (by decide) ?_
      exact cu25 _ _ ⟨343, rfl, lv_sub hl [0, 1, 2, 3] rfl, by unfold sgAll; first | rw [if_pos (by omega)] | rw [if_neg (by omega), if_pos (by omega)] | rw [if_neg (by omega), if_neg (by omega)]⟩
    · refine lv_bipush (v := nI 49) hx hb dX6_gramOf_17 (by decide) ?_
      refine lv_goto (tgt := 25) hx hb dX6_gramOf_19 rfl ?_
      exact cu25 _ _ ⟨49, rfl, lv_sub hl [0, 1, 2, 3] rfl, by unfold sgAll; first | rw [if_pos (by omega)] | rw [if_neg (by omega), if_pos (by omega)] | rw [if_neg (by omega), if_neg (by omega)]⟩
  · refine lv_bipush (v := nI 7) hx hb dX6_gramOf_7 (by decide) ?_
    refine lv_goto (tgt := 25) hx hb dX6_gramOf_9 rfl ?_
    exact cu25 _ _ ⟨7, rfl, lv_sub hl [0, 1, 2, 3] rfl, by unfold sgAll; first | rw [if_pos (by omega)] | rw [if_neg (by omega), if_pos (by omega)] | rw [if_neg (by omega), if_neg (by omega)]⟩
set_option maxHeartbeats 4000000 in
set_option maxRecDepth 100000 in
theorem r_gramOf_all (l : Launch) (D : va_G) (cI cO : ClassId) (m : Nat) (me : Nat) (ml : Nat) (mw : Nat) (wa : Nat) (wb : Nat) (wf : Nat) (li : Nat) (ord : Nat) (ns : Nat) (y0 : Int64) (y1 : Int64) (ge : Nat → Int32) (gL : Nat → Int32) (gW : Nat → Int32) (ga : Nat → Int32) (gb : Nat → Int32) (gf : Nat → Int32) (lim : Nat → Int32) (E : Nat) (rw : Nat → Nat → Nat → Nat → Nat) (k : Nat) (hEv : sgEv rw ga gb gf E) (hB : sgBd rw) (ho : 1 ≤ ord ∧ ord ≤ 3) (hk : 1 ≤ k ∧ k ≤ 3) : Met l yX6_gramOf (.code yX6_gramOf cX6_gramOf 6 (some .int) :: sgT) ({ frames := 2, cells := 0, slots := 0, locals := 54 }) (sgPc D cI cO [.ref m, .int (nI k), .int (-1)] [(m, .inr (6, [.int (nI ord), .ref me, .int (nI ns), .ref ml, .ref mw, .int (nI E), .ref wa, .ref wb, .ref wf, .long y0, .long y1, .ref li])), (me, .inl (cI, 4, .inl ge)), (ml, .inl (cI, 9, .inl gL)), (mw, .inl (cI, 72, .inl gW)), (wa, .inl (cI, 72, .inl ga)), (wb, .inl (cI, 72, .inl gb)), (wf, .inl (cI, 72, .inl gf)), (li, .inl (cI, 240, .inl lim))]) (vp_Si (fun r => r = nI (sgG rw ord k (sgAll k)))) 0 0 (fun _ => False) := by
  refine Met.ofW (cc := cX6_gramOf) (maxL := 6) (ret := (some .int)) (by decide) rfl ?_
  intro pZ eZ sZ mZ argsZ belowZ methZ cZ s₁ BZ hml hv
  obtain ⟨rfl, hP, hK⟩ := hv
  have hx := BZ.exec
  have hb := BZ.bytes
  have hr := BZ.returns
  have hts : ∀ wZ ∈ sgT, wZ.before ([.ref m, .int (nI k), .int (-1)] : List Value).toArray sZ = true := fun wZ h => atoms_spec (ws := (.code yX6_gramOf cX6_gramOf 6 (some .int) :: sgT)) BZ.pre wZ (List.mem_cons_of_mem _ h)
  have hown : sZ.vm.findClass RX6 = some mZ.cls := findClass_of_methodNamed BZ.named
  have hlocks := BZ.notSynchronized
  have hl := lv_entry ([.ref m, .int (nI k), .int (-1)]) (n := 6) (Nat.le_of_ble_eq_true rfl)
  rw [lg_entry_eq]
  generalize (lg_sl ([.ref m, .int (nI k), .int (-1)]) ++ List.replicate (6 - (lg_sl ([.ref m, .int (nI k), .int (-1)])).length) Slot.unset).toArray = ls at hl ⊢
  have hl : lv_has ls 6 [(0, .ref m), (1, .int (nI k)), (2, .int (-1))] := hl
  have hAl := sgAll_le k
  refine lv_iconst (v := nI 0) hx hb dX6_gramOf_0 (by decide) ?_
  refine lv_istore_n hx hb dX6_gramOf_1 rfl hl (by decide) rfl (fun ls hl => ?_)
  have hl : lv_has ls 6 [(3, .int (nI 0)), (0, .ref m), (1, .int (nI k)), (2, .int (-1))] := hl
  refine sw_cutR 25 (I := fun st ls => ∃ (q : Nat), st = [.int (nI q)] ∧ lv_has ls 6 [(3, .int (nI 0)), (0, .ref m), (1, .int (nI k)), (2, .int (-1))] ∧ (q = sgAll k)) ?_ (fun cu25 => ?_)
  · intro st ls hI
    obtain ⟨q, rfl, hl, hq⟩ := hI
    refine lv_istore hx hb dX6_gramOf_25 hl (by decide) rfl (fun ls hl => ?_)
    have hl : lv_has ls 6 [(4, .int (nI q)), (3, .int (nI 0)), (0, .ref m), (1, .int (nI k)), (2, .int (-1))] := hl
    refine lv_iconst (v := nI 0) hx hb dX6_gramOf_27 (by decide) ?_
    refine lv_istore hx hb dX6_gramOf_28 hl (by decide) rfl (fun ls hl => ?_)
    have hl : lv_has ls 6 [(5, .int (nI 0)), (4, .int (nI q)), (3, .int (nI 0)), (0, .ref m), (1, .int (nI k)), (2, .int (-1))] := hl
    refine sw_loopR (I := fun kM ls => ∃ (g : Nat) (n : Nat), kM = sgAll k - g ∧ lv_has ls 6 [(5, .int (nI g)), (4, .int (nI q)), (3, .int (nI n)), (0, .ref m), (1, .int (nI k)), (2, .int (-1))] ∧ (g ≤ sgAll k) ∧ (n ≤ g) ∧ (n = sgG rw ord k g)) ?_ _ ⟨0, 0, rfl, hl, by omega, by omega, rfl⟩
    intro kM ls hI ih30
    obtain ⟨g, n, hkM, hl, hi, hng, hn⟩ := hI
    refine lv_iload hx hb dX6_gramOf_30 (lv_at hl 0 rfl) ?_
    refine lv_iload hx hb dX6_gramOf_32 (lv_at hl 1 rfl) ?_
    refine ci_icmp_ge (X := ((g : Nat) : Int)) (Y := ((q : Nat) : Int)) (tgt := 81) hx hb (sg_n (by omega)) (sg_n (by omega)) dX6_gramOf_34 rfl (fun h34 => ?_) (fun h34 => ?_)
    · refine lv_iload_n hx hb dX6_gramOf_81 rfl (lv_at hl 5 rfl) ?_
      refine ci_if_ge (X := (-1 : Int)) (tgt := 89) hx hb rfl dX6_gramOf_82 rfl (fun h82 => by exfalso; omega) (fun h82 => ?_)
      refine lv_iload_n hx hb dX6_gramOf_85 rfl (lv_at hl 2 rfl) ?_
      refine lv_goto (tgt := 90) hx hb dX6_gramOf_86 rfl ?_
      exact W.iret hx hb hr (fun tZ ht hW => ⟨_, rfl, (by rw [hn]; congr 2; omega), ht⟩) (fun q h => by cases h) dX6_gramOf_90
    · refine lv_aload_n hx hb dX6_gramOf_37 rfl (lv_at hl 3 rfl) ?_
      refine lv_iload_n hx hb dX6_gramOf_38 rfl (lv_at hl 4 rfl) ?_
      refine lv_iload hx hb dX6_gramOf_39 (lv_at hl 0 rfl) ?_
      refine lv_bipush (v := nI 49) hx hb dX6_gramOf_41 (by decide) ?_
      refine n_idiv hx hb dX6_gramOf_43 (by omega) (by omega) (by omega) ?_
      refine lv_iload hx hb dX6_gramOf_44 (lv_at hl 0 rfl) ?_
      refine lv_bipush (v := nI 7) hx hb dX6_gramOf_46 (by decide) ?_
      refine n_idiv hx hb dX6_gramOf_48 (by omega) (by omega) (by omega) ?_
      refine lv_bipush (v := nI 7) hx hb dX6_gramOf_49 (by decide) ?_
      refine n_irem hx hb dX6_gramOf_51 (by omega) (by omega) (by omega) ?_
      refine lv_iload hx hb dX6_gramOf_52 (lv_at hl 0 rfl) ?_
      refine lv_bipush (v := nI 7) hx hb dX6_gramOf_54 (by decide) ?_
      refine n_irem hx hb dX6_gramOf_56 (by omega) (by omega) (by omega) ?_
      refine sg_callRi (va_runV (As := [.int (nI k), .int (nI (g / 49)), .int (nI ((g / 7) % 7)), .int (nI (g % 7))]) (rest := []) (C := RX6) ⟨hx, hb, hml, hown, hts⟩ (c_X6_countOf l D cI cO m me ml mw wa wb wf li ord ns y0 y1 ge gL gW ga gb gf lim E rw k (nI (g / 49)) (nI ((g / 7) % 7)) (g / 49) (g / 7 % 7) (g % 7) hEv hB (by omega) (by omega) (fun _ => rfl) (fun _ => rfl) (by omega) (by omega) (by omega)) ⟨(sg_cB 4 hts mcX6_countOf ml_X6_63 in_X6 rfl rfl (by decide +kernel) ⟨Nat.le_of_ble_eq_true rfl, Nat.le_of_ble_eq_true rfl⟩), hts _ im_X6_countOf, hts _ se_X6_countOf⟩ (sg_pV (q0 := 0) hK hP [0, 1, 2, 3, 4, 5, 6, 7] rfl rfl rfl rfl) rfl rfl hl.1 rfl (lv_room (Nat.le_of_ble_eq_true rfl)) dX6_gramOf_57 ⟨Nat.zero_le _, Nat.zero_le _⟩) ?_
      refine sw_i (y := nI (sgCg rw ord k g)) rfl ?_
      have hv := sgCg_le hB ord k g
      refine ci_if_le (X := ((sgCg rw ord k g : Nat) : Int)) (tgt := 75) hx hb (sg_n (by omega)) dX6_gramOf_60 rfl (fun h60 => ?_) (fun h60 => ?_)
      · refine lv_iinc (v := nI (g + 1)) hx hb dX6_gramOf_75 hl (k := 0) rfl (sg_inc _) (by decide) rfl (fun ls hl => ?_)
        have hl : lv_has ls 6 [(5, .int (nI (g + 1))), (4, .int (nI q)), (3, .int (nI n)), (0, .ref m), (1, .int (nI k)), (2, .int (-1))] := hl
        refine lv_goto (tgt := 30) hx hb dX6_gramOf_78 rfl ?_
        exact ih30 _ _ ⟨g + 1, n, rfl, lv_sub hl [0, 1, 2, 3, 4, 5] rfl, by omega, by omega, by first | (rw [sgG_p (by omega)]; omega) | (rw [sgG_z (by omega)]; omega)⟩ (by omega)
      · refine lv_iload_n hx hb dX6_gramOf_63 rfl (lv_at hl 2 rfl) ?_
        refine lv_iload_n hx hb dX6_gramOf_64 rfl (lv_at hl 5 rfl) ?_
        refine ci_icmp_ne (X := ((n : Nat) : Int)) (Y := (-1 : Int)) (tgt := 71) hx hb (sg_n (by omega)) rfl dX6_gramOf_65 rfl (fun h65 => ?_) (fun h65 => by exfalso; omega)
        refine lv_iload_n hx hb dX6_gramOf_71 rfl (lv_at hl 2 rfl) ?_
        refine lv_iconst (v := nI 1) hx hb dX6_gramOf_72 (by decide) ?_
        refine n_iadd hx hb dX6_gramOf_73 ?_
        refine lv_istore_n hx hb dX6_gramOf_74 rfl hl (by decide) rfl (fun ls hl => ?_)
        have hl : lv_has ls 6 [(3, .int (nI (n + 1))), (5, .int (nI g)), (4, .int (nI q)), (0, .ref m), (1, .int (nI k)), (2, .int (-1))] := hl
        refine lv_iinc (v := nI (g + 1)) hx hb dX6_gramOf_75 hl (k := 1) rfl (sg_inc _) (by decide) rfl (fun ls hl => ?_)
        have hl : lv_has ls 6 [(5, .int (nI (g + 1))), (3, .int (nI (n + 1))), (4, .int (nI q)), (0, .ref m), (1, .int (nI k)), (2, .int (-1))] := hl
        refine lv_goto (tgt := 30) hx hb dX6_gramOf_78 rfl ?_
        exact ih30 _ _ ⟨g + 1, n + 1, rfl, lv_sub hl [0, 2, 1, 3, 4, 5] rfl, by omega, by omega, by first | (rw [sgG_p (by omega)]; omega) | (rw [sgG_z (by omega)]; omega)⟩ (by omega)
  refine lv_iload_n hx hb dX6_gramOf_2 rfl (lv_at hl 2 rfl) ?_
  refine lv_iconst (v := nI 1) hx hb dX6_gramOf_3 (by decide) ?_
  refine ci_icmp_ne (X := ((k : Nat) : Int)) (Y := ((1 : Nat) : Int)) (tgt := 12) hx hb (sg_n (by omega)) (sg_n (by omega)) dX6_gramOf_4 rfl (fun h4 => ?_) (fun h4 => ?_)
  · refine lv_iload_n hx hb dX6_gramOf_12 rfl (lv_at hl 2 rfl) ?_
    refine lv_iconst (v := nI 2) hx hb dX6_gramOf_13 (by decide) ?_
    refine ci_icmp_ne (X := ((k : Nat) : Int)) (Y := ((2 : Nat) : Int)) (tgt := 22) hx hb (sg_n (by omega)) (sg_n (by omega)) dX6_gramOf_14 rfl (fun h14 => ?_) (fun h14 => ?_)
    · refine lv_sipush (v := nI 343) hx hb dX6_gramOf_22 (by decide) ?_
      exact cu25 _ _ ⟨343, rfl, lv_sub hl [0, 1, 2, 3] rfl, by unfold sgAll; first | rw [if_pos (by omega)] | rw [if_neg (by omega), if_pos (by omega)] | rw [if_neg (by omega), if_neg (by omega)]⟩
    · refine lv_bipush (v := nI 49) hx hb dX6_gramOf_17 (by decide) ?_
      refine lv_goto (tgt := 25) hx hb dX6_gramOf_19 rfl ?_
      exact cu25 _ _ ⟨49, rfl, lv_sub hl [0, 1, 2, 3] rfl, by unfold sgAll; first | rw [if_pos (by omega)] | rw [if_neg (by omega), if_pos (by omega)] | rw [if_neg (by omega), if_neg (by omega)]⟩
  · refine lv_bipush (v := nI 7) hx hb dX6_gramOf_7 (by decide) ?_
    refine lv_goto (tgt := 25) hx hb dX6_gramOf_9 rfl ?_
    exact cu25 _ _ ⟨7, rfl, lv_sub hl [0, 1, 2, 3] rfl, by unfold sgAll; first | rw [if_pos (by omega)] | rw [if_neg (by omega), if_pos (by omega)] | rw [if_neg (by omega), if_neg (by omega)]⟩
set_option maxHeartbeats 4000000 in
set_option maxRecDepth 100000 in
theorem r_grams_bad (l : Launch) (D : va_G) (cI cO : ClassId) (m : Nat) (me : Nat) (ml : Nat) (mw : Nat) (wa : Nat) (wb : Nat) (wf : Nat) (li : Nat) (ord : Nat) (ns : Nat) (ev : Int32) (y0 : Int64) (y1 : Int64) (ge : Nat → Int32) (gL : Nat → Int32) (gW : Nat → Int32) (ga : Nat → Int32) (gb : Nat → Int32) (gf : Nat → Int32) (lim : Nat → Int32) (ln : Nat → Nat) (wd : Nat → Nat → Nat) (k : Int32) (hns : ns ≤ 8) (hMm : sgMm ln wd ns gL gW) (hn : ¬ (1 ≤ k.toInt ∧ k.toInt ≤ 3)) : Met l yX6_grams (.code yX6_grams cX6_grams 2 (some .int) :: sgT) ({ frames := 3, cells := 0, slots := 0, locals := 79 }) (sgWc D cI cO [.ref m, .int k] [(m, .inr (6, [.int (nI ord), .ref me, .int (nI ns), .ref ml, .ref mw, .int ev, .ref wa, .ref wb, .ref wf, .long y0, .long y1, .ref li])), (me, .inl (cI, 4, .inl ge)), (ml, .inl (cI, 9, .inl gL)), (mw, .inl (cI, 72, .inl gW)), (wa, .inl (cI, 72, .inl ga)), (wb, .inl (cI, 72, .inl gb)), (wf, .inl (cI, 72, .inl gf)), (li, .inl (cI, 240, .inl lim))]) (va_Qi (fun (r : Int32) (uZ : Nat × (Nat → Int32) × (Nat → Int32) × (Nat → Int32)) => r = -1) (fun uZ t => va_P D vwCl [(m, .inr (6, [.int (nI ord), .ref me, .int (nI ns), .ref ml, .ref mw, .int (nI uZ.1), .ref wa, .ref wb, .ref wf, .long y0, .long y1, .ref li])), (me, .inl (cI, 4, .inl ge)), (ml, .inl (cI, 9, .inl gL)), (mw, .inl (cI, 72, .inl gW)), (wa, .inl (cI, 72, .inl uZ.2.1)), (wb, .inl (cI, 72, .inl uZ.2.2.1)), (wf, .inl (cI, 72, .inl uZ.2.2.2)), (li, .inl (cI, 240, .inl lim))] t.heap) (xA [(m, .inr (6, [.int (nI ord), .ref me, .int (nI ns), .ref ml, .ref mw, .int ev, .ref wa, .ref wb, .ref wf, .long y0, .long y1, .ref li])), (me, .inl (cI, 4, .inl ge)), (ml, .inl (cI, 9, .inl gL)), (mw, .inl (cI, 72, .inl gW)), (wa, .inl (cI, 72, .inl ga)), (wb, .inl (cI, 72, .inl gb)), (wf, .inl (cI, 72, .inl gf)), (li, .inl (cI, 240, .inl lim))])) 0 0 (xA [(m, .inr (6, [.int (nI ord), .ref me, .int (nI ns), .ref ml, .ref mw, .int ev, .ref wa, .ref wb, .ref wf, .long y0, .long y1, .ref li])), (me, .inl (cI, 4, .inl ge)), (ml, .inl (cI, 9, .inl gL)), (mw, .inl (cI, 72, .inl gW)), (wa, .inl (cI, 72, .inl ga)), (wb, .inl (cI, 72, .inl gb)), (wf, .inl (cI, 72, .inl gf)), (li, .inl (cI, 240, .inl lim))]) := by
  refine Met.ofW (cc := cX6_grams) (maxL := 2) (ret := (some .int)) (by decide) rfl ?_
  intro pZ eZ sZ mZ argsZ belowZ methZ cZ s₁ BZ hml hv
  obtain ⟨rfl, hP, hK, hD0⟩ := hv
  have hx := BZ.exec
  have hb := BZ.bytes
  have hr := BZ.returns
  have hts : ∀ wZ ∈ sgT, wZ.before ([.ref m, .int k] : List Value).toArray sZ = true := fun wZ h => atoms_spec (ws := (.code yX6_grams cX6_grams 2 (some .int) :: sgT)) BZ.pre wZ (List.mem_cons_of_mem _ h)
  have hown : sZ.vm.findClass RX6 = some mZ.cls := findClass_of_methodNamed BZ.named
  have hlocks := BZ.notSynchronized
  have hD : va_D (xA [(m, .inr (6, [.int (nI ord), .ref me, .int (nI ns), .ref ml, .ref mw, .int ev, .ref wa, .ref wb, .ref wf, .long y0, .long y1, .ref li])), (me, .inl (cI, 4, .inl ge)), (ml, .inl (cI, 9, .inl gL)), (mw, .inl (cI, 72, .inl gW)), (wa, .inl (cI, 72, .inl ga)), (wb, .inl (cI, 72, .inl gb)), (wf, .inl (cI, 72, .inl gf)), (li, .inl (cI, 240, .inl lim))]) [(m, .inr (6, [.int (nI ord), .ref me, .int (nI ns), .ref ml, .ref mw, .int ev, .ref wa, .ref wb, .ref wf, .long y0, .long y1, .ref li])), (me, .inl (cI, 4, .inl ge)), (ml, .inl (cI, 9, .inl gL)), (mw, .inl (cI, 72, .inl gW)), (wa, .inl (cI, 72, .inl ga)), (wb, .inl (cI, 72, .inl gb)), (wf, .inl (cI, 72, .inl gf)), (li, .inl (cI, 240, .inl lim))] := ⟨hD0.1, fun k q h => ⟨k, q.2, h⟩⟩
  generalize hAe : xA [(m, .inr (6, [.int (nI ord), .ref me, .int (nI ns), .ref ml, .ref mw, .int ev, .ref wa, .ref wb, .ref wf, .long y0, .long y1, .ref li])), (me, .inl (cI, 4, .inl ge)), (ml, .inl (cI, 9, .inl gL)), (mw, .inl (cI, 72, .inl gW)), (wa, .inl (cI, 72, .inl ga)), (wb, .inl (cI, 72, .inl gb)), (wf, .inl (cI, 72, .inl gf)), (li, .inl (cI, 240, .inl lim))] = A at hD ⊢
  have hS : va_S A sZ.heap sZ.heap [] := va_S.rf
  have hl := lv_entry ([.ref m, .int k]) (n := 2) (Nat.le_of_ble_eq_true rfl)
  rw [lg_entry_eq]
  generalize (lg_sl ([.ref m, .int k]) ++ List.replicate (2 - (lg_sl ([.ref m, .int k])).length) Slot.unset).toArray = ls at hl ⊢
  have hl : lv_has ls 2 [(0, .ref m), (1, .int k)] := hl
  have hP : va_P D vwCl [(m, .inr (6, [.int (nI ord), .ref me, .int (nI ns), .ref ml, .ref mw, .int ev, .ref wa, .ref wb, .ref wf, .long y0, .long y1, .ref li])), (me, .inl (cI, 4, .inl ge)), (ml, .inl (cI, 9, .inl gL)), (mw, .inl (cI, 72, .inl gW)), (wa, .inl (cI, 72, .inl ga)), (wb, .inl (cI, 72, .inl gb)), (wf, .inl (cI, 72, .inl gf)), (li, .inl (cI, 240, .inl lim))] sZ.heap := hP
  refine lv_aload_n hx hb dX6_grams_0 rfl (lv_at hl 0 rfl) ?_
  refine sg_callWv (fun u1 => [(m, .inr (6, [.int (nI ord), .ref me, .int (nI ns), .ref ml, .ref mw, .int (nI u1.1), .ref wa, .ref wb, .ref wf, .long y0, .long y1, .ref li])), (me, .inl (cI, 4, .inl ge)), (ml, .inl (cI, 9, .inl gL)), (mw, .inl (cI, 72, .inl gW)), (wa, .inl (cI, 72, .inl u1.2.1)), (wb, .inl (cI, 72, .inl u1.2.2.1)), (wf, .inl (cI, 72, .inl u1.2.2.2)), (li, .inl (cI, 240, .inl lim))]) [(true, 0), (true, 1), (true, 2), (true, 3), (true, 4), (true, 5), (true, 6), (true, 7)] (va_runV (As := []) (rest := []) (C := RX6) ⟨hx, hb, hml, hown, hts⟩ (c_X6_look l D cI cO m me ml mw wa wb wf li ord ns ev y0 y1 ge gL gW ga gb gf lim ln wd (by omega) hMm) ⟨(sg_cB 0 hts mcX6_look ml_X6_56 in_X6 rfl rfl (by decide +kernel) ⟨Nat.le_of_ble_eq_true rfl, Nat.le_of_ble_eq_true rfl⟩), hts _ im_X6_look, hts _ se_X6_look⟩ (sg_wV (q0 := 0) hK hP hD [0, 1, 2, 3, 4, 5, 6, 7] (by decide) rfl rfl rfl rfl) rfl rfl hl.1 rfl (lv_room (Nat.le_of_ble_eq_true rfl)) dX6_grams_1 ⟨Nat.zero_le _, Nat.zero_le _⟩) hP hD hS [0, 1, 2, 3, 4, 5, 6, 7] rfl (fun _ => rfl) (by decide) (fun _ => rfl) (fun u1 H locs hw1 hP hD hS => ?_)
  refine lv_iload_n hx hb dX6_grams_4 rfl (lv_at hl 1 rfl) ?_
  refine sg_callRi (va_runS (As := [.int k]) (rest := []) ⟨hx, hb, hml, hown, hts⟩ (c_X6_isLevel l D cI cO k) ⟨(sg_cB 1 hts mcX6_isLevel ml_X6_49 in_X6 rfl rfl (by decide +kernel) ⟨Nat.le_of_ble_eq_true rfl, Nat.le_of_ble_eq_true rfl⟩), hts _ st_X6_isLevel⟩ (sg_pS hK hP [] rfl) rfl rfl hl.1 rfl (lv_room (Nat.le_of_ble_eq_true rfl)) dX6_grams_5 ⟨Nat.zero_le _, Nat.zero_le _⟩) ?_
  refine ci_beq (P := (1 ≤ k.toInt ∧ k.toInt ≤ 3)) (tgt := 20) hx hb dX6_grams_8 rfl (fun h8 => ?_) (fun h8 => by exfalso; omega)
  refine lv_iconst (v := -1) hx hb dX6_grams_20 (by decide) ?_
  exact W.iret hx hb hr (fun tZ ht hW => ⟨⟨_, u1, rfl, rfl, by show va_P D vwCl _ tZ.heap; rw [ht]; exact hP⟩, hS.F ht⟩) hS.2.2 dX6_grams_21
set_option maxHeartbeats 4000000 in
set_option maxRecDepth 100000 in
theorem c_X6_grams (l : Launch) (D : va_G) (cI cO : ClassId) (m : Nat) (me : Nat) (ml : Nat) (mw : Nat) (wa : Nat) (wb : Nat) (wf : Nat) (li : Nat) (ord : Nat) (ns : Nat) (ev : Int32) (y0 : Int64) (y1 : Int64) (ge : Nat → Int32) (gL : Nat → Int32) (gW : Nat → Int32) (ga : Nat → Int32) (gb : Nat → Int32) (gf : Nat → Int32) (lim : Nat → Int32) (ln : Nat → Nat) (wd : Nat → Nat → Nat) (k : Nat) (hns : ns ≤ 8) (hMm : sgMm ln wd ns gL gW) (ho : 1 ≤ ord ∧ ord ≤ 3) (hk : 1 ≤ k ∧ k ≤ 3) : Met l yX6_grams (.code yX6_grams cX6_grams 2 (some .int) :: sgT) ({ frames := 3, cells := 0, slots := 0, locals := 79 }) (sgWc D cI cO [.ref m, .int (nI k)] [(m, .inr (6, [.int (nI ord), .ref me, .int (nI ns), .ref ml, .ref mw, .int ev, .ref wa, .ref wb, .ref wf, .long y0, .long y1, .ref li])), (me, .inl (cI, 4, .inl ge)), (ml, .inl (cI, 9, .inl gL)), (mw, .inl (cI, 72, .inl gW)), (wa, .inl (cI, 72, .inl ga)), (wb, .inl (cI, 72, .inl gb)), (wf, .inl (cI, 72, .inl gf)), (li, .inl (cI, 240, .inl lim))]) (va_Qi (fun (r : Int32) (uZ : Nat × (Nat → Int32) × (Nat → Int32) × (Nat → Int32)) => r = nI (sgG (rwS ln wd ns) ord k (sgAll k))) (fun uZ t => va_P D vwCl [(m, .inr (6, [.int (nI ord), .ref me, .int (nI ns), .ref ml, .ref mw, .int (nI uZ.1), .ref wa, .ref wb, .ref wf, .long y0, .long y1, .ref li])), (me, .inl (cI, 4, .inl ge)), (ml, .inl (cI, 9, .inl gL)), (mw, .inl (cI, 72, .inl gW)), (wa, .inl (cI, 72, .inl uZ.2.1)), (wb, .inl (cI, 72, .inl uZ.2.2.1)), (wf, .inl (cI, 72, .inl uZ.2.2.2)), (li, .inl (cI, 240, .inl lim))] t.heap) (xA [(m, .inr (6, [.int (nI ord), .ref me, .int (nI ns), .ref ml, .ref mw, .int ev, .ref wa, .ref wb, .ref wf, .long y0, .long y1, .ref li])), (me, .inl (cI, 4, .inl ge)), (ml, .inl (cI, 9, .inl gL)), (mw, .inl (cI, 72, .inl gW)), (wa, .inl (cI, 72, .inl ga)), (wb, .inl (cI, 72, .inl gb)), (wf, .inl (cI, 72, .inl gf)), (li, .inl (cI, 240, .inl lim))])) 0 0 (xA [(m, .inr (6, [.int (nI ord), .ref me, .int (nI ns), .ref ml, .ref mw, .int ev, .ref wa, .ref wb, .ref wf, .long y0, .long y1, .ref li])), (me, .inl (cI, 4, .inl ge)), (ml, .inl (cI, 9, .inl gL)), (mw, .inl (cI, 72, .inl gW)), (wa, .inl (cI, 72, .inl ga)), (wb, .inl (cI, 72, .inl gb)), (wf, .inl (cI, 72, .inl gf)), (li, .inl (cI, 240, .inl lim))]) := by
  refine Met.ofW (cc := cX6_grams) (maxL := 2) (ret := (some .int)) (by decide) rfl ?_
  intro pZ eZ sZ mZ argsZ belowZ methZ cZ s₁ BZ hml hv
  obtain ⟨rfl, hP, hK, hD0⟩ := hv
  have hx := BZ.exec
  have hb := BZ.bytes
  have hr := BZ.returns
  have hts : ∀ wZ ∈ sgT, wZ.before ([.ref m, .int (nI k)] : List Value).toArray sZ = true := fun wZ h => atoms_spec (ws := (.code yX6_grams cX6_grams 2 (some .int) :: sgT)) BZ.pre wZ (List.mem_cons_of_mem _ h)
  have hown : sZ.vm.findClass RX6 = some mZ.cls := findClass_of_methodNamed BZ.named
  have hlocks := BZ.notSynchronized
  have hD : va_D (xA [(m, .inr (6, [.int (nI ord), .ref me, .int (nI ns), .ref ml, .ref mw, .int ev, .ref wa, .ref wb, .ref wf, .long y0, .long y1, .ref li])), (me, .inl (cI, 4, .inl ge)), (ml, .inl (cI, 9, .inl gL)), (mw, .inl (cI, 72, .inl gW)), (wa, .inl (cI, 72, .inl ga)), (wb, .inl (cI, 72, .inl gb)), (wf, .inl (cI, 72, .inl gf)), (li, .inl (cI, 240, .inl lim))]) [(m, .inr (6, [.int (nI ord), .ref me, .int (nI ns), .ref ml, .ref mw, .int ev, .ref wa, .ref wb, .ref wf, .long y0, .long y1, .ref li])), (me, .inl (cI, 4, .inl ge)), (ml, .inl (cI, 9, .inl gL)), (mw, .inl (cI, 72, .inl gW)), (wa, .inl (cI, 72, .inl ga)), (wb, .inl (cI, 72, .inl gb)), (wf, .inl (cI, 72, .inl gf)), (li, .inl (cI, 240, .inl lim))] := ⟨hD0.1, fun k q h => ⟨k, q.2, h⟩⟩
  generalize hAe : xA [(m, .inr (6, [.int (nI ord), .ref me, .int (nI ns), .ref ml, .ref mw, .int ev, .ref wa, .ref wb, .ref wf, .long y0, .long y1, .ref li])), (me, .inl (cI, 4, .inl ge)), (ml, .inl (cI, 9, .inl gL)), (mw, .inl (cI, 72, .inl gW)), (wa, .inl (cI, 72, .inl ga)), (wb, .inl (cI, 72, .inl gb)), (wf, .inl (cI, 72, .inl gf)), (li, .inl (cI, 240, .inl lim))] = A at hD ⊢
  have hS : va_S A sZ.heap sZ.heap [] := va_S.rf
  have hl := lv_entry ([.ref m, .int (nI k)]) (n := 2) (Nat.le_of_ble_eq_true rfl)
  rw [lg_entry_eq]
  generalize (lg_sl ([.ref m, .int (nI k)]) ++ List.replicate (2 - (lg_sl ([.ref m, .int (nI k)])).length) Slot.unset).toArray = ls at hl ⊢
  have hl : lv_has ls 2 [(0, .ref m), (1, .int (nI k))] := hl
  have hkI := sg_n (n := k) (by omega)
  have hB := rwS_bd hns hMm
  have hP : va_P D vwCl [(m, .inr (6, [.int (nI ord), .ref me, .int (nI ns), .ref ml, .ref mw, .int ev, .ref wa, .ref wb, .ref wf, .long y0, .long y1, .ref li])), (me, .inl (cI, 4, .inl ge)), (ml, .inl (cI, 9, .inl gL)), (mw, .inl (cI, 72, .inl gW)), (wa, .inl (cI, 72, .inl ga)), (wb, .inl (cI, 72, .inl gb)), (wf, .inl (cI, 72, .inl gf)), (li, .inl (cI, 240, .inl lim))] sZ.heap := hP
  refine lv_aload_n hx hb dX6_grams_0 rfl (lv_at hl 0 rfl) ?_
  refine sg_callWv (fun u1 => [(m, .inr (6, [.int (nI ord), .ref me, .int (nI ns), .ref ml, .ref mw, .int (nI u1.1), .ref wa, .ref wb, .ref wf, .long y0, .long y1, .ref li])), (me, .inl (cI, 4, .inl ge)), (ml, .inl (cI, 9, .inl gL)), (mw, .inl (cI, 72, .inl gW)), (wa, .inl (cI, 72, .inl u1.2.1)), (wb, .inl (cI, 72, .inl u1.2.2.1)), (wf, .inl (cI, 72, .inl u1.2.2.2)), (li, .inl (cI, 240, .inl lim))]) [(true, 0), (true, 1), (true, 2), (true, 3), (true, 4), (true, 5), (true, 6), (true, 7)] (va_runV (As := []) (rest := []) (C := RX6) ⟨hx, hb, hml, hown, hts⟩ (c_X6_look l D cI cO m me ml mw wa wb wf li ord ns ev y0 y1 ge gL gW ga gb gf lim ln wd (by omega) hMm) ⟨(sg_cB 0 hts mcX6_look ml_X6_56 in_X6 rfl rfl (by decide +kernel) ⟨Nat.le_of_ble_eq_true rfl, Nat.le_of_ble_eq_true rfl⟩), hts _ im_X6_look, hts _ se_X6_look⟩ (sg_wV (q0 := 0) hK hP hD [0, 1, 2, 3, 4, 5, 6, 7] (by decide) rfl rfl rfl rfl) rfl rfl hl.1 rfl (lv_room (Nat.le_of_ble_eq_true rfl)) dX6_grams_1 ⟨Nat.zero_le _, Nat.zero_le _⟩) hP hD hS [0, 1, 2, 3, 4, 5, 6, 7] rfl (fun _ => rfl) (by decide) (fun _ => rfl) (fun u1 H locs hw1 hP hD hS => ?_)
  have hw1 : sgEv (rwS ln wd ns) u1.2.1 u1.2.2.1 u1.2.2.2 u1.1 := hw1
  refine lv_iload_n hx hb dX6_grams_4 rfl (lv_at hl 1 rfl) ?_
  refine sg_callRi (va_runS (As := [.int (nI k)]) (rest := []) ⟨hx, hb, hml, hown, hts⟩ (c_X6_isLevel l D cI cO (nI k)) ⟨(sg_cB 1 hts mcX6_isLevel ml_X6_49 in_X6 rfl rfl (by decide +kernel) ⟨Nat.le_of_ble_eq_true rfl, Nat.le_of_ble_eq_true rfl⟩), hts _ st_X6_isLevel⟩ (sg_pS hK hP [] rfl) rfl rfl hl.1 rfl (lv_room (Nat.le_of_ble_eq_true rfl)) dX6_grams_5 ⟨Nat.zero_le _, Nat.zero_le _⟩) ?_
  refine ci_beq (P := (1 ≤ (nI k).toInt ∧ (nI k).toInt ≤ 3)) (tgt := 20) hx hb dX6_grams_8 rfl (fun h8 => by exfalso; omega) (fun h8 => ?_)
  refine lv_aload_n hx hb dX6_grams_11 rfl (lv_at hl 0 rfl) ?_
  refine lv_iload_n hx hb dX6_grams_12 rfl (lv_at hl 1 rfl) ?_
  refine lv_iconst (v := -1) hx hb dX6_grams_13 (by decide) ?_
  refine sg_callRi (va_runV (As := [.int (nI k), .int (-1)]) (rest := []) (C := RX6) ⟨hx, hb, hml, hown, hts⟩ (r_gramOf_all l D cI cO m me ml mw wa wb wf li ord ns y0 y1 ge gL gW u1.2.1 u1.2.2.1 u1.2.2.2 lim u1.1 (rwS ln wd ns) k hw1 hB (by omega) (by omega)) ⟨(sg_cB 2 hts mcX6_gramOf ml_X6_73 in_X6 rfl rfl (by decide +kernel) ⟨Nat.le_of_ble_eq_true rfl, Nat.le_of_ble_eq_true rfl⟩), hts _ im_X6_gramOf, hts _ se_X6_gramOf⟩ (sg_pV (q0 := 0) hK hP [0, 1, 2, 3, 4, 5, 6, 7] rfl rfl rfl rfl) rfl rfl hl.1 rfl (lv_room (Nat.le_of_ble_eq_true rfl)) dX6_grams_14 ⟨Nat.zero_le _, Nat.zero_le _⟩) ?_
  refine lv_goto (tgt := 21) hx hb dX6_grams_17 rfl ?_
  exact W.iret hx hb hr (fun tZ ht hW => ⟨⟨_, u1, rfl, rfl, by show va_P D vwCl _ tZ.heap; rw [ht]; exact hP⟩, hS.F ht⟩) hS.2.2 dX6_grams_21
set_option maxHeartbeats 4000000 in
set_option maxRecDepth 100000 in
theorem r_gram_bad (l : Launch) (D : va_G) (cI cO : ClassId) (m : Nat) (me : Nat) (ml : Nat) (mw : Nat) (wa : Nat) (wb : Nat) (wf : Nat) (li : Nat) (ord : Nat) (ns : Nat) (ev : Int32) (y0 : Int64) (y1 : Int64) (ge : Nat → Int32) (gL : Nat → Int32) (gW : Nat → Int32) (ga : Nat → Int32) (gb : Nat → Int32) (gf : Nat → Int32) (lim : Nat → Int32) (ln : Nat → Nat) (wd : Nat → Nat → Nat) (k : Int32) (i : Int32) (hns : ns ≤ 8) (hMm : sgMm ln wd ns gL gW) (hn : ¬ ((1 ≤ k.toInt ∧ k.toInt ≤ 3) ∧ 0 ≤ i.toInt)) : Met l yX6_gram (.code yX6_gram cX6_gram 3 (some .int) :: sgT) ({ frames := 3, cells := 0, slots := 0, locals := 79 }) (sgWc D cI cO [.ref m, .int k, .int i] [(m, .inr (6, [.int (nI ord), .ref me, .int (nI ns), .ref ml, .ref mw, .int ev, .ref wa, .ref wb, .ref wf, .long y0, .long y1, .ref li])), (me, .inl (cI, 4, .inl ge)), (ml, .inl (cI, 9, .inl gL)), (mw, .inl (cI, 72, .inl gW)), (wa, .inl (cI, 72, .inl ga)), (wb, .inl (cI, 72, .inl gb)), (wf, .inl (cI, 72, .inl gf)), (li, .inl (cI, 240, .inl lim))]) (va_Qi (fun (r : Int32) (uZ : Nat × (Nat → Int32) × (Nat → Int32) × (Nat → Int32)) => r = -1) (fun uZ t => va_P D vwCl [(m, .inr (6, [.int (nI ord), .ref me, .int (nI ns), .ref ml, .ref mw, .int (nI uZ.1), .ref wa, .ref wb, .ref wf, .long y0, .long y1, .ref li])), (me, .inl (cI, 4, .inl ge)), (ml, .inl (cI, 9, .inl gL)), (mw, .inl (cI, 72, .inl gW)), (wa, .inl (cI, 72, .inl uZ.2.1)), (wb, .inl (cI, 72, .inl uZ.2.2.1)), (wf, .inl (cI, 72, .inl uZ.2.2.2)), (li, .inl (cI, 240, .inl lim))] t.heap) (xA [(m, .inr (6, [.int (nI ord), .ref me, .int (nI ns), .ref ml, .ref mw, .int ev, .ref wa, .ref wb, .ref wf, .long y0, .long y1, .ref li])), (me, .inl (cI, 4, .inl ge)), (ml, .inl (cI, 9, .inl gL)), (mw, .inl (cI, 72, .inl gW)), (wa, .inl (cI, 72, .inl ga)), (wb, .inl (cI, 72, .inl gb)), (wf, .inl (cI, 72, .inl gf)), (li, .inl (cI, 240, .inl lim))])) 0 0 (xA [(m, .inr (6, [.int (nI ord), .ref me, .int (nI ns), .ref ml, .ref mw, .int ev, .ref wa, .ref wb, .ref wf, .long y0, .long y1, .ref li])), (me, .inl (cI, 4, .inl ge)), (ml, .inl (cI, 9, .inl gL)), (mw, .inl (cI, 72, .inl gW)), (wa, .inl (cI, 72, .inl ga)), (wb, .inl (cI, 72, .inl gb)), (wf, .inl (cI, 72, .inl gf)), (li, .inl (cI, 240, .inl lim))]) := by
  refine Met.ofW (cc := cX6_gram) (maxL := 3) (ret := (some .int)) (by decide) rfl ?_
  intro pZ eZ sZ mZ argsZ belowZ methZ cZ s₁ BZ hml hv
  obtain ⟨rfl, hP, hK, hD0⟩ := hv
  have hx := BZ.exec
  have hb := BZ.bytes
  have hr := BZ.returns
  have hts : ∀ wZ ∈ sgT, wZ.before ([.ref m, .int k, .int i] : List Value).toArray sZ = true := fun wZ h => atoms_spec (ws := (.code yX6_gram cX6_gram 3 (some .int) :: sgT)) BZ.pre wZ (List.mem_cons_of_mem _ h)
  have hown : sZ.vm.findClass RX6 = some mZ.cls := findClass_of_methodNamed BZ.named
  have hlocks := BZ.notSynchronized
  have hD : va_D (xA [(m, .inr (6, [.int (nI ord), .ref me, .int (nI ns), .ref ml, .ref mw, .int ev, .ref wa, .ref wb, .ref wf, .long y0, .long y1, .ref li])), (me, .inl (cI, 4, .inl ge)), (ml, .inl (cI, 9, .inl gL)), (mw, .inl (cI, 72, .inl gW)), (wa, .inl (cI, 72, .inl ga)), (wb, .inl (cI, 72, .inl gb)), (wf, .inl (cI, 72, .inl gf)), (li, .inl (cI, 240, .inl lim))]) [(m, .inr (6, [.int (nI ord), .ref me, .int (nI ns), .ref ml, .ref mw, .int ev, .ref wa, .ref wb, .ref wf, .long y0, .long y1, .ref li])), (me, .inl (cI, 4, .inl ge)), (ml, .inl (cI, 9, .inl gL)), (mw, .inl (cI, 72, .inl gW)), (wa, .inl (cI, 72, .inl ga)), (wb, .inl (cI, 72, .inl gb)), (wf, .inl (cI, 72, .inl gf)), (li, .inl (cI, 240, .inl lim))] := ⟨hD0.1, fun k q h => ⟨k, q.2, h⟩⟩
  generalize hAe : xA [(m, .inr (6, [.int (nI ord), .ref me, .int (nI ns), .ref ml, .ref mw, .int ev, .ref wa, .ref wb, .ref wf, .long y0, .long y1, .ref li])), (me, .inl (cI, 4, .inl ge)), (ml, .inl (cI, 9, .inl gL)), (mw, .inl (cI, 72, .inl gW)), (wa, .inl (cI, 72, .inl ga)), (wb, .inl (cI, 72, .inl gb)), (wf, .inl (cI, 72, .inl gf)), (li, .inl (cI, 240, .inl lim))] = A at hD ⊢
  have hS : va_S A sZ.heap sZ.heap [] := va_S.rf
  have hl := lv_entry ([.ref m, .int k, .int i]) (n := 3) (Nat.le_of_ble_eq_true rfl)
  rw [lg_entry_eq]
  generalize (lg_sl ([.ref m, .int k, .int i]) ++ List.replicate (3 - (lg_sl ([.ref m, .int k, .int i])).length) Slot.unset).toArray = ls at hl ⊢
  have hl : lv_has ls 3 [(0, .ref m), (1, .int k), (2, .int i)] := hl
  have hP : va_P D vwCl [(m, .inr (6, [.int (nI ord), .ref me, .int (nI ns), .ref ml, .ref mw, .int ev, .ref wa, .ref wb, .ref wf, .long y0, .long y1, .ref li])), (me, .inl (cI, 4, .inl ge)), (ml, .inl (cI, 9, .inl gL)), (mw, .inl (cI, 72, .inl gW)), (wa, .inl (cI, 72, .inl ga)), (wb, .inl (cI, 72, .inl gb)), (wf, .inl (cI, 72, .inl gf)), (li, .inl (cI, 240, .inl lim))] sZ.heap := hP
  refine lv_aload_n hx hb dX6_gram_0 rfl (lv_at hl 0 rfl) ?_
  refine sg_callWv (fun u1 => [(m, .inr (6, [.int (nI ord), .ref me, .int (nI ns), .ref ml, .ref mw, .int (nI u1.1), .ref wa, .ref wb, .ref wf, .long y0, .long y1, .ref li])), (me, .inl (cI, 4, .inl ge)), (ml, .inl (cI, 9, .inl gL)), (mw, .inl (cI, 72, .inl gW)), (wa, .inl (cI, 72, .inl u1.2.1)), (wb, .inl (cI, 72, .inl u1.2.2.1)), (wf, .inl (cI, 72, .inl u1.2.2.2)), (li, .inl (cI, 240, .inl lim))]) [(true, 0), (true, 1), (true, 2), (true, 3), (true, 4), (true, 5), (true, 6), (true, 7)] (va_runV (As := []) (rest := []) (C := RX6) ⟨hx, hb, hml, hown, hts⟩ (c_X6_look l D cI cO m me ml mw wa wb wf li ord ns ev y0 y1 ge gL gW ga gb gf lim ln wd (by omega) hMm) ⟨(sg_cB 0 hts mcX6_look ml_X6_56 in_X6 rfl rfl (by decide +kernel) ⟨Nat.le_of_ble_eq_true rfl, Nat.le_of_ble_eq_true rfl⟩), hts _ im_X6_look, hts _ se_X6_look⟩ (sg_wV (q0 := 0) hK hP hD [0, 1, 2, 3, 4, 5, 6, 7] (by decide) rfl rfl rfl rfl) rfl rfl hl.1 rfl (lv_room (Nat.le_of_ble_eq_true rfl)) dX6_gram_1 ⟨Nat.zero_le _, Nat.zero_le _⟩) hP hD hS [0, 1, 2, 3, 4, 5, 6, 7] rfl (fun _ => rfl) (by decide) (fun _ => rfl) (fun u1 H locs hw1 hP hD hS => ?_)
  refine lv_iload_n hx hb dX6_gram_4 rfl (lv_at hl 1 rfl) ?_
  refine sg_callRi (va_runS (As := [.int k]) (rest := []) ⟨hx, hb, hml, hown, hts⟩ (c_X6_isLevel l D cI cO k) ⟨(sg_cB 1 hts mcX6_isLevel ml_X6_49 in_X6 rfl rfl (by decide +kernel) ⟨Nat.le_of_ble_eq_true rfl, Nat.le_of_ble_eq_true rfl⟩), hts _ st_X6_isLevel⟩ (sg_pS hK hP [] rfl) rfl rfl hl.1 rfl (lv_room (Nat.le_of_ble_eq_true rfl)) dX6_gram_5 ⟨Nat.zero_le _, Nat.zero_le _⟩) ?_
  refine ci_beq (P := (1 ≤ k.toInt ∧ k.toInt ≤ 3)) (tgt := 24) hx hb dX6_gram_8 rfl (fun h8 => ?_) (fun h8 => ?_)
  · refine lv_iconst (v := -1) hx hb dX6_gram_24 (by decide) ?_
    exact W.iret hx hb hr (fun tZ ht hW => ⟨⟨_, u1, rfl, rfl, by show va_P D vwCl _ tZ.heap; rw [ht]; exact hP⟩, hS.F ht⟩) hS.2.2 dX6_gram_25
  · refine lv_iload_n hx hb dX6_gram_11 rfl (lv_at hl 2 rfl) ?_
    refine ci_if_lt (X := i.toInt) (tgt := 24) hx hb rfl dX6_gram_12 rfl (fun h12 => ?_) (fun h12 => by exfalso; omega)
    refine lv_iconst (v := -1) hx hb dX6_gram_24 (by decide) ?_
    exact W.iret hx hb hr (fun tZ ht hW => ⟨⟨_, u1, rfl, rfl, by show va_P D vwCl _ tZ.heap; rw [ht]; exact hP⟩, hS.F ht⟩) hS.2.2 dX6_gram_25
set_option maxHeartbeats 4000000 in
set_option maxRecDepth 100000 in
theorem c_X6_gram (l : Launch) (D : va_G) (cI cO : ClassId) (m : Nat) (me : Nat) (ml : Nat) (mw : Nat) (wa : Nat) (wb : Nat) (wf : Nat) (li : Nat) (ord : Nat) (ns : Nat) (ev : Int32) (y0 : Int64) (y1 : Int64) (ge : Nat → Int32) (gL : Nat → Int32) (gW : Nat → Int32) (ga : Nat → Int32) (gb : Nat → Int32) (gf : Nat → Int32) (lim : Nat → Int32) (ln : Nat → Nat) (wd : Nat → Nat → Nat) (k : Nat) (i : Int32) (hns : ns ≤ 8) (hMm : sgMm ln wd ns gL gW) (ho : 1 ≤ ord ∧ ord ≤ 3) (hk : 1 ≤ k ∧ k ≤ 3) (hi0 : 0 ≤ i.toInt) : Met l yX6_gram (.code yX6_gram cX6_gram 3 (some .int) :: sgT) ({ frames := 3, cells := 0, slots := 0, locals := 79 }) (sgWc D cI cO [.ref m, .int (nI k), .int i] [(m, .inr (6, [.int (nI ord), .ref me, .int (nI ns), .ref ml, .ref mw, .int ev, .ref wa, .ref wb, .ref wf, .long y0, .long y1, .ref li])), (me, .inl (cI, 4, .inl ge)), (ml, .inl (cI, 9, .inl gL)), (mw, .inl (cI, 72, .inl gW)), (wa, .inl (cI, 72, .inl ga)), (wb, .inl (cI, 72, .inl gb)), (wf, .inl (cI, 72, .inl gf)), (li, .inl (cI, 240, .inl lim))]) (va_Qi (fun (r : Int32) (uZ : Nat × (Nat → Int32) × (Nat → Int32) × (Nat → Int32)) => r = sgFd (rwS ln wd ns) ord k i (sgAll k) 0 0) (fun uZ t => va_P D vwCl [(m, .inr (6, [.int (nI ord), .ref me, .int (nI ns), .ref ml, .ref mw, .int (nI uZ.1), .ref wa, .ref wb, .ref wf, .long y0, .long y1, .ref li])), (me, .inl (cI, 4, .inl ge)), (ml, .inl (cI, 9, .inl gL)), (mw, .inl (cI, 72, .inl gW)), (wa, .inl (cI, 72, .inl uZ.2.1)), (wb, .inl (cI, 72, .inl uZ.2.2.1)), (wf, .inl (cI, 72, .inl uZ.2.2.2)), (li, .inl (cI, 240, .inl lim))] t.heap) (xA [(m, .inr (6, [.int (nI ord), .ref me, .int (nI ns), .ref ml, .ref mw, .int ev, .ref wa, .ref wb, .ref wf, .long y0, .long y1, .ref li])), (me, .inl (cI, 4, .inl ge)), (ml, .inl (cI, 9, .inl gL)), (mw, .inl (cI, 72, .inl gW)), (wa, .inl (cI, 72, .inl ga)), (wb, .inl (cI, 72, .inl gb)), (wf, .inl (cI, 72, .inl gf)), (li, .inl (cI, 240, .inl lim))])) 0 0 (xA [(m, .inr (6, [.int (nI ord), .ref me, .int (nI ns), .ref ml, .ref mw, .int ev, .ref wa, .ref wb, .ref wf, .long y0, .long y1, .ref li])), (me, .inl (cI, 4, .inl ge)), (ml, .inl (cI, 9, .inl gL)), (mw, .inl (cI, 72, .inl gW)), (wa, .inl (cI, 72, .inl ga)), (wb, .inl (cI, 72, .inl gb)), (wf, .inl (cI, 72, .inl gf)), (li, .inl (cI, 240, .inl lim))]) := by
  refine Met.ofW (cc := cX6_gram) (maxL := 3) (ret := (some .int)) (by decide) rfl ?_
  intro pZ eZ sZ mZ argsZ belowZ methZ cZ s₁ BZ hml hv
  obtain ⟨rfl, hP, hK, hD0⟩ := hv
  have hx := BZ.exec
  have hb := BZ.bytes
  have hr := BZ.returns
  have hts : ∀ wZ ∈ sgT, wZ.before ([.ref m, .int (nI k), .int i] : List Value).toArray sZ = true := fun wZ h => atoms_spec (ws := (.code yX6_gram cX6_gram 3 (some .int) :: sgT)) BZ.pre wZ (List.mem_cons_of_mem _ h)
  have hown : sZ.vm.findClass RX6 = some mZ.cls := findClass_of_methodNamed BZ.named
  have hlocks := BZ.notSynchronized
  have hD : va_D (xA [(m, .inr (6, [.int (nI ord), .ref me, .int (nI ns), .ref ml, .ref mw, .int ev, .ref wa, .ref wb, .ref wf, .long y0, .long y1, .ref li])), (me, .inl (cI, 4, .inl ge)), (ml, .inl (cI, 9, .inl gL)), (mw, .inl (cI, 72, .inl gW)), (wa, .inl (cI, 72, .inl ga)), (wb, .inl (cI, 72, .inl gb)), (wf, .inl (cI, 72, .inl gf)), (li, .inl (cI, 240, .inl lim))]) [(m, .inr (6, [.int (nI ord), .ref me, .int (nI ns), .ref ml, .ref mw, .int ev, .ref wa, .ref wb, .ref wf, .long y0, .long y1, .ref li])), (me, .inl (cI, 4, .inl ge)), (ml, .inl (cI, 9, .inl gL)), (mw, .inl (cI, 72, .inl gW)), (wa, .inl (cI, 72, .inl ga)), (wb, .inl (cI, 72, .inl gb)), (wf, .inl (cI, 72, .inl gf)), (li, .inl (cI, 240, .inl lim))] := ⟨hD0.1, fun k q h => ⟨k, q.2, h⟩⟩
  generalize hAe : xA [(m, .inr (6, [.int (nI ord), .ref me, .int (nI ns), .ref ml, .ref mw, .int ev, .ref wa, .ref wb, .ref wf, .long y0, .long y1, .ref li])), (me, .inl (cI, 4, .inl ge)), (ml, .inl (cI, 9, .inl gL)), (mw, .inl (cI, 72, .inl gW)), (wa, .inl (cI, 72, .inl ga)), (wb, .inl (cI, 72, .inl gb)), (wf, .inl (cI, 72, .inl gf)), (li, .inl (cI, 240, .inl lim))] = A at hD ⊢
  have hS : va_S A sZ.heap sZ.heap [] := va_S.rf
  have hl := lv_entry ([.ref m, .int (nI k), .int i]) (n := 3) (Nat.le_of_ble_eq_true rfl)
  rw [lg_entry_eq]
  generalize (lg_sl ([.ref m, .int (nI k), .int i]) ++ List.replicate (3 - (lg_sl ([.ref m, .int (nI k), .int i])).length) Slot.unset).toArray = ls at hl ⊢
  have hl : lv_has ls 3 [(0, .ref m), (1, .int (nI k)), (2, .int i)] := hl
  have hkI := sg_n (n := k) (by omega)
  have hB := rwS_bd hns hMm
  have hP : va_P D vwCl [(m, .inr (6, [.int (nI ord), .ref me, .int (nI ns), .ref ml, .ref mw, .int ev, .ref wa, .ref wb, .ref wf, .long y0, .long y1, .ref li])), (me, .inl (cI, 4, .inl ge)), (ml, .inl (cI, 9, .inl gL)), (mw, .inl (cI, 72, .inl gW)), (wa, .inl (cI, 72, .inl ga)), (wb, .inl (cI, 72, .inl gb)), (wf, .inl (cI, 72, .inl gf)), (li, .inl (cI, 240, .inl lim))] sZ.heap := hP
  refine lv_aload_n hx hb dX6_gram_0 rfl (lv_at hl 0 rfl) ?_
  refine sg_callWv (fun u1 => [(m, .inr (6, [.int (nI ord), .ref me, .int (nI ns), .ref ml, .ref mw, .int (nI u1.1), .ref wa, .ref wb, .ref wf, .long y0, .long y1, .ref li])), (me, .inl (cI, 4, .inl ge)), (ml, .inl (cI, 9, .inl gL)), (mw, .inl (cI, 72, .inl gW)), (wa, .inl (cI, 72, .inl u1.2.1)), (wb, .inl (cI, 72, .inl u1.2.2.1)), (wf, .inl (cI, 72, .inl u1.2.2.2)), (li, .inl (cI, 240, .inl lim))]) [(true, 0), (true, 1), (true, 2), (true, 3), (true, 4), (true, 5), (true, 6), (true, 7)] (va_runV (As := []) (rest := []) (C := RX6) ⟨hx, hb, hml, hown, hts⟩ (c_X6_look l D cI cO m me ml mw wa wb wf li ord ns ev y0 y1 ge gL gW ga gb gf lim ln wd (by omega) hMm) ⟨(sg_cB 0 hts mcX6_look ml_X6_56 in_X6 rfl rfl (by decide +kernel) ⟨Nat.le_of_ble_eq_true rfl, Nat.le_of_ble_eq_true rfl⟩), hts _ im_X6_look, hts _ se_X6_look⟩ (sg_wV (q0 := 0) hK hP hD [0, 1, 2, 3, 4, 5, 6, 7] (by decide) rfl rfl rfl rfl) rfl rfl hl.1 rfl (lv_room (Nat.le_of_ble_eq_true rfl)) dX6_gram_1 ⟨Nat.zero_le _, Nat.zero_le _⟩) hP hD hS [0, 1, 2, 3, 4, 5, 6, 7] rfl (fun _ => rfl) (by decide) (fun _ => rfl) (fun u1 H locs hw1 hP hD hS => ?_)
  have hw1 : sgEv (rwS ln wd ns) u1.2.1 u1.2.2.1 u1.2.2.2 u1.1 := hw1
  refine lv_iload_n hx hb dX6_gram_4 rfl (lv_at hl 1 rfl) ?_
  refine sg_callRi (va_runS (As := [.int (nI k)]) (rest := []) ⟨hx, hb, hml, hown, hts⟩ (c_X6_isLevel l D cI cO (nI k)) ⟨(sg_cB 1 hts mcX6_isLevel ml_X6_49 in_X6 rfl rfl (by decide +kernel) ⟨Nat.le_of_ble_eq_true rfl, Nat.le_of_ble_eq_true rfl⟩), hts _ st_X6_isLevel⟩ (sg_pS hK hP [] rfl) rfl rfl hl.1 rfl (lv_room (Nat.le_of_ble_eq_true rfl)) dX6_gram_5 ⟨Nat.zero_le _, Nat.zero_le _⟩) ?_
  refine ci_beq (P := (1 ≤ (nI k).toInt ∧ (nI k).toInt ≤ 3)) (tgt := 24) hx hb dX6_gram_8 rfl (fun h8 => by exfalso; omega) (fun h8 => ?_)
  refine lv_iload_n hx hb dX6_gram_11 rfl (lv_at hl 2 rfl) ?_
  refine ci_if_lt (X := i.toInt) (tgt := 24) hx hb rfl dX6_gram_12 rfl (fun h12 => by exfalso; omega) (fun h12 => ?_)
  refine lv_aload_n hx hb dX6_gram_15 rfl (lv_at hl 0 rfl) ?_
  refine lv_iload_n hx hb dX6_gram_16 rfl (lv_at hl 1 rfl) ?_
  refine lv_iload_n hx hb dX6_gram_17 rfl (lv_at hl 2 rfl) ?_
  refine sg_callRi (va_runV (As := [.int (nI k), .int i]) (rest := []) (C := RX6) ⟨hx, hb, hml, hown, hts⟩ (c_X6_gramOf l D cI cO m me ml mw wa wb wf li ord ns y0 y1 ge gL gW u1.2.1 u1.2.2.1 u1.2.2.2 lim u1.1 (rwS ln wd ns) k i hw1 hB (by omega) (by omega) (by omega)) ⟨(sg_cB 2 hts mcX6_gramOf ml_X6_73 in_X6 rfl rfl (by decide +kernel) ⟨Nat.le_of_ble_eq_true rfl, Nat.le_of_ble_eq_true rfl⟩), hts _ im_X6_gramOf, hts _ se_X6_gramOf⟩ (sg_pV (q0 := 0) hK hP [0, 1, 2, 3, 4, 5, 6, 7] rfl rfl rfl rfl) rfl rfl hl.1 rfl (lv_room (Nat.le_of_ble_eq_true rfl)) dX6_gram_18 ⟨Nat.zero_le _, Nat.zero_le _⟩) ?_
  refine lv_goto (tgt := 25) hx hb dX6_gram_21 rfl ?_
  exact W.iret hx hb hr (fun tZ ht hW => ⟨⟨_, u1, rfl, rfl, by show va_P D vwCl _ tZ.heap; rw [ht]; exact hP⟩, hS.F ht⟩) hS.2.2 dX6_gram_25
set_option maxHeartbeats 4000000 in
set_option maxRecDepth 100000 in
theorem c_X6_reckon (l : Launch) (D : va_G) (cI cO : ClassId) (m : Nat) (me : Nat) (ml : Nat) (mw : Nat) (wa : Nat) (wb : Nat) (wf : Nat) (li : Nat) (ord : Nat) (ns : Nat) (y0 : Int64) (y1 : Int64) (ge : Nat → Int32) (gL : Nat → Int32) (gW : Nat → Int32) (ga : Nat → Int32) (gb : Nat → Int32) (gf : Nat → Int32) (lim : Nat → Int32) (E : Nat) (rw : Nat → Nat → Nat → Nat → Nat) (e : Nat → Nat) (a : Nat) (b : Nat) (w : Nat) (hEv : sgEv rw ga gb gf E) (hB : sgBd rw) (ho : 1 ≤ ord ∧ ord ≤ 3) (hE : sgE e) (hge : ∀ k, 1 ≤ k → k ≤ 3 → ge k = nI (e k)) (ha : a < 7) (hbb : b < 7) (hw : w < 7) : Met l yX6_reckon (.code yX6_reckon cX6_reckon 10 none :: sgT) ({ frames := 3, cells := 0, slots := 0, locals := 79 }) (sgWc D cI cO [.ref m, .int (nI a), .int (nI b), .int (nI w)] [(m, .inr (6, [.int (nI ord), .ref me, .int (nI ns), .ref ml, .ref mw, .int (nI E), .ref wa, .ref wb, .ref wf, .long y0, .long y1, .ref li])), (me, .inl (cI, 4, .inl ge)), (ml, .inl (cI, 9, .inl gL)), (mw, .inl (cI, 72, .inl gW)), (wa, .inl (cI, 72, .inl ga)), (wb, .inl (cI, 72, .inl gb)), (wf, .inl (cI, 72, .inl gf)), (li, .inl (cI, 240, .inl lim))]) (va_Qv (fun uZ : Unit => True) (fun uZ t => va_P D vwCl [(m, .inr (6, [.int (nI ord), .ref me, .int (nI ns), .ref ml, .ref mw, .int (nI E), .ref wa, .ref wb, .ref wf, .long (lN (sgO rw ord e a b w)), .long (lN (sgU rw ord e a b w)), .ref li])), (me, .inl (cI, 4, .inl ge)), (ml, .inl (cI, 9, .inl gL)), (mw, .inl (cI, 72, .inl gW)), (wa, .inl (cI, 72, .inl ga)), (wb, .inl (cI, 72, .inl gb)), (wf, .inl (cI, 72, .inl gf)), (li, .inl (cI, 240, .inl lim))] t.heap) (xA [(m, .inr (6, [.int (nI ord), .ref me, .int (nI ns), .ref ml, .ref mw, .int (nI E), .ref wa, .ref wb, .ref wf, .long y0, .long y1, .ref li])), (me, .inl (cI, 4, .inl ge)), (ml, .inl (cI, 9, .inl gL)), (mw, .inl (cI, 72, .inl gW)), (wa, .inl (cI, 72, .inl ga)), (wb, .inl (cI, 72, .inl gb)), (wf, .inl (cI, 72, .inl gf)), (li, .inl (cI, 240, .inl lim))])) 0 0 (xA [(m, .inr (6, [.int (nI ord), .ref me, .int (nI ns), .ref ml, .ref mw, .int (nI E), .ref wa, .ref wb, .ref wf, .long y0, .long y1, .ref li])), (me, .inl (cI, 4, .inl ge)), (ml, .inl (cI, 9, .inl gL)), (mw, .inl (cI, 72, .inl gW)), (wa, .inl (cI, 72, .inl ga)), (wb, .inl (cI, 72, .inl gb)), (wf, .inl (cI, 72, .inl gf)), (li, .inl (cI, 240, .inl lim))]) := by
  refine Met.ofW (cc := cX6_reckon) (maxL := 10) (ret := none) (by decide) rfl ?_
  intro pZ eZ sZ mZ argsZ belowZ methZ cZ s₁ BZ hml hv
  obtain ⟨rfl, hP, hK, hD0⟩ := hv
  have hx := BZ.exec
  have hb := BZ.bytes
  have hr := BZ.returns
  have hts : ∀ wZ ∈ sgT, wZ.before ([.ref m, .int (nI a), .int (nI b), .int (nI w)] : List Value).toArray sZ = true := fun wZ h => atoms_spec (ws := (.code yX6_reckon cX6_reckon 10 none :: sgT)) BZ.pre wZ (List.mem_cons_of_mem _ h)
  have hown : sZ.vm.findClass RX6 = some mZ.cls := findClass_of_methodNamed BZ.named
  have hlocks := BZ.notSynchronized
  have hD : va_D (xA [(m, .inr (6, [.int (nI ord), .ref me, .int (nI ns), .ref ml, .ref mw, .int (nI E), .ref wa, .ref wb, .ref wf, .long y0, .long y1, .ref li])), (me, .inl (cI, 4, .inl ge)), (ml, .inl (cI, 9, .inl gL)), (mw, .inl (cI, 72, .inl gW)), (wa, .inl (cI, 72, .inl ga)), (wb, .inl (cI, 72, .inl gb)), (wf, .inl (cI, 72, .inl gf)), (li, .inl (cI, 240, .inl lim))]) [(m, .inr (6, [.int (nI ord), .ref me, .int (nI ns), .ref ml, .ref mw, .int (nI E), .ref wa, .ref wb, .ref wf, .long y0, .long y1, .ref li])), (me, .inl (cI, 4, .inl ge)), (ml, .inl (cI, 9, .inl gL)), (mw, .inl (cI, 72, .inl gW)), (wa, .inl (cI, 72, .inl ga)), (wb, .inl (cI, 72, .inl gb)), (wf, .inl (cI, 72, .inl gf)), (li, .inl (cI, 240, .inl lim))] := ⟨hD0.1, fun k q h => ⟨k, q.2, h⟩⟩
  generalize hAe : xA [(m, .inr (6, [.int (nI ord), .ref me, .int (nI ns), .ref ml, .ref mw, .int (nI E), .ref wa, .ref wb, .ref wf, .long y0, .long y1, .ref li])), (me, .inl (cI, 4, .inl ge)), (ml, .inl (cI, 9, .inl gL)), (mw, .inl (cI, 72, .inl gW)), (wa, .inl (cI, 72, .inl ga)), (wb, .inl (cI, 72, .inl gb)), (wf, .inl (cI, 72, .inl gf)), (li, .inl (cI, 240, .inl lim))] = A at hD ⊢
  have hS : va_S A sZ.heap sZ.heap [] := va_S.rf
  have hl := lv_entry ([.ref m, .int (nI a), .int (nI b), .int (nI w)]) (n := 10) (Nat.le_of_ble_eq_true rfl)
  rw [lg_entry_eq]
  generalize (lg_sl ([.ref m, .int (nI a), .int (nI b), .int (nI w)]) ++ List.replicate (10 - (lg_sl ([.ref m, .int (nI a), .int (nI b), .int (nI w)])).length) Slot.unset).toArray = ls at hl ⊢
  have hl : lv_has ls 10 [(0, .ref m), (1, .int (nI a)), (2, .int (nI b)), (3, .int (nI w))] := hl
  have hP : va_P D vwCl [(m, .inr (6, [.int (nI ord), .ref me, .int (nI ns), .ref ml, .ref mw, .int (nI E), .ref wa, .ref wb, .ref wf, .long y0, .long y1, .ref li])), (me, .inl (cI, 4, .inl ge)), (ml, .inl (cI, 9, .inl gL)), (mw, .inl (cI, 72, .inl gW)), (wa, .inl (cI, 72, .inl ga)), (wb, .inl (cI, 72, .inl gb)), (wf, .inl (cI, 72, .inl gf)), (li, .inl (cI, 240, .inl lim))] sZ.heap := hP
  refine lv_aload_n hx hb dX6_reckon_0 rfl (lv_at hl 0 rfl) ?_
  refine lv_lconst (v := lN 1) hx hb dX6_reckon_1 (by decide) ?_
  refine va_put (D := D) (ci := 6) (v := .long (lN 1)) (ty := .long) (C := RX6) (T := TX6) (N := 12) hx hb hts hinX6 tyX6 tyX6_ok nmX6 hown hK.1 hP hD hS 0 rfl rfl 9 (by decide) (hts _ fl_X6_76) (fun _ h9 => h9) rfl (by decide +kernel) rfl rfl (Nat.le_of_ble_eq_true rfl) dX6_reckon_2 (fun H locs hP hD hS => ?_)
  have hP : va_P D vwCl [(m, .inr (6, [.int (nI ord), .ref me, .int (nI ns), .ref ml, .ref mw, .int (nI E), .ref wa, .ref wb, .ref wf, .long (lN 1), .long y1, .ref li])), (me, .inl (cI, 4, .inl ge)), (ml, .inl (cI, 9, .inl gL)), (mw, .inl (cI, 72, .inl gW)), (wa, .inl (cI, 72, .inl ga)), (wb, .inl (cI, 72, .inl gb)), (wf, .inl (cI, 72, .inl gf)), (li, .inl (cI, 240, .inl lim))] H := hP
  have hD : va_D A [(m, .inr (6, [.int (nI ord), .ref me, .int (nI ns), .ref ml, .ref mw, .int (nI E), .ref wa, .ref wb, .ref wf, .long (lN 1), .long y1, .ref li])), (me, .inl (cI, 4, .inl ge)), (ml, .inl (cI, 9, .inl gL)), (mw, .inl (cI, 72, .inl gW)), (wa, .inl (cI, 72, .inl ga)), (wb, .inl (cI, 72, .inl gb)), (wf, .inl (cI, 72, .inl gf)), (li, .inl (cI, 240, .inl lim))] := hD
  refine lv_aload_n hx hb dX6_reckon_5 rfl (lv_at hl 0 rfl) ?_
  refine lv_ldc2 (v := lN 6) hx hb hown (hts _ kl_X6_80) dX6_reckon_6 ?_
  refine va_put (D := D) (ci := 6) (v := .long (lN 6)) (ty := .long) (C := RX6) (T := TX6) (N := 12) hx hb hts hinX6 tyX6 tyX6_ok nmX6 hown hK.1 hP hD hS 0 rfl rfl 10 (by decide) (hts _ fl_X6_82) (fun _ h9 => h9) rfl (by decide +kernel) rfl rfl (Nat.le_of_ble_eq_true rfl) dX6_reckon_9 (fun H locs hP hD hS => ?_)
  have hP : va_P D vwCl [(m, .inr (6, [.int (nI ord), .ref me, .int (nI ns), .ref ml, .ref mw, .int (nI E), .ref wa, .ref wb, .ref wf, .long (lN 1), .long (lN 6), .ref li])), (me, .inl (cI, 4, .inl ge)), (ml, .inl (cI, 9, .inl gL)), (mw, .inl (cI, 72, .inl gW)), (wa, .inl (cI, 72, .inl ga)), (wb, .inl (cI, 72, .inl gb)), (wf, .inl (cI, 72, .inl gf)), (li, .inl (cI, 240, .inl lim))] H := hP
  have hD : va_D A [(m, .inr (6, [.int (nI ord), .ref me, .int (nI ns), .ref ml, .ref mw, .int (nI E), .ref wa, .ref wb, .ref wf, .long (lN 1), .long (lN 6), .ref li])), (me, .inl (cI, 4, .inl ge)), (ml, .inl (cI, 9, .inl gL)), (mw, .inl (cI, 72, .inl gW)), (wa, .inl (cI, 72, .inl ga)), (wb, .inl (cI, 72, .inl gb)), (wf, .inl (cI, 72, .inl gf)), (li, .inl (cI, 240, .inl lim))] := hD
  refine lv_iconst (v := nI 1) hx hb dX6_reckon_12 (by decide) ?_
  refine lv_istore hx hb dX6_reckon_13 hl (by decide) rfl (fun ls hl => ?_)
  have hl : lv_has ls 10 [(4, .int (nI 1)), (0, .ref m), (1, .int (nI a)), (2, .int (nI b)), (3, .int (nI w))] := hl
  refine sw_loop (I := fun kM ls H locs => ∃ (t : Nat), kM = ord - t ∧ lv_has ls 10 [(4, .int (nI (t + 1))), (0, .ref m), (1, .int (nI a)), (2, .int (nI b)), (3, .int (nI w))] ∧ va_P D vwCl [(m, .inr (6, [.int (nI ord), .ref me, .int (nI ns), .ref ml, .ref mw, .int (nI E), .ref wa, .ref wb, .ref wf, .long (lN ((sgOUw rw ord e a b w t).1)), .long (lN ((sgOUw rw ord e a b w t).2)), .ref li])), (me, .inl (cI, 4, .inl ge)), (ml, .inl (cI, 9, .inl gL)), (mw, .inl (cI, 72, .inl gW)), (wa, .inl (cI, 72, .inl ga)), (wb, .inl (cI, 72, .inl gb)), (wf, .inl (cI, 72, .inl gf)), (li, .inl (cI, 240, .inl lim))] H ∧ va_D A [(m, .inr (6, [.int (nI ord), .ref me, .int (nI ns), .ref ml, .ref mw, .int (nI E), .ref wa, .ref wb, .ref wf, .long (lN ((sgOUw rw ord e a b w t).1)), .long (lN ((sgOUw rw ord e a b w t).2)), .ref li])), (me, .inl (cI, 4, .inl ge)), (ml, .inl (cI, 9, .inl gL)), (mw, .inl (cI, 72, .inl gW)), (wa, .inl (cI, 72, .inl ga)), (wb, .inl (cI, 72, .inl gb)), (wf, .inl (cI, 72, .inl gf)), (li, .inl (cI, 240, .inl lim))] ∧ va_S A sZ.heap H locs ∧ (t ≤ ord)) ?_ _ ⟨0, rfl, hl, hP, hD, hS, by omega⟩
  intro kM ls H locs hI ih15
  obtain ⟨t, hkM, hl, hP, hD, hS, hi⟩ := hI
  refine lv_iload hx hb dX6_reckon_15 (lv_at hl 0 rfl) ?_
  refine lv_aload_n hx hb dX6_reckon_17 rfl (lv_at hl 1 rfl) ?_
  refine va_get (D := D) (ci := 6) (v := .int (nI ord)) (C := RX6) (T := TX6) (N := 12) hx hb hts hinX6 hown hK.1 hP 0 rfl rfl 0 (by decide) (hts _ fl_X6_7) (fun _ h9 => h9) rfl dX6_reckon_18 ?_
  refine ci_icmp_gt (X := ((t + 1 : Nat) : Int)) (Y := ((ord : Nat) : Int)) (tgt := 127) hx hb (sg_n (by omega)) (sg_n (by omega)) dX6_reckon_21 rfl (fun h21 => ?_) (fun h21 => ?_)
  · have hto : t = ord := by omega
    rw [hto] at hP hD
    have hP : va_P D vwCl [(m, .inr (6, [.int (nI ord), .ref me, .int (nI ns), .ref ml, .ref mw, .int (nI E), .ref wa, .ref wb, .ref wf, .long (lN ((sgOUw rw ord e a b w ord).1)), .long (lN ((sgOUw rw ord e a b w ord).2)), .ref li])), (me, .inl (cI, 4, .inl ge)), (ml, .inl (cI, 9, .inl gL)), (mw, .inl (cI, 72, .inl gW)), (wa, .inl (cI, 72, .inl ga)), (wb, .inl (cI, 72, .inl gb)), (wf, .inl (cI, 72, .inl gf)), (li, .inl (cI, 240, .inl lim))] H := hP
    have hD : va_D A [(m, .inr (6, [.int (nI ord), .ref me, .int (nI ns), .ref ml, .ref mw, .int (nI E), .ref wa, .ref wb, .ref wf, .long (lN ((sgOUw rw ord e a b w ord).1)), .long (lN ((sgOUw rw ord e a b w ord).2)), .ref li])), (me, .inl (cI, 4, .inl ge)), (ml, .inl (cI, 9, .inl gL)), (mw, .inl (cI, 72, .inl gW)), (wa, .inl (cI, 72, .inl ga)), (wb, .inl (cI, 72, .inl gb)), (wf, .inl (cI, 72, .inl gf)), (li, .inl (cI, 240, .inl lim))] := hD
    have hlv := sgLv_of hB ord a b w hE
    have hpo := sgOU_pos hlv ord ho.2
    have hlt := sgOU_lt hlv ord ho.2
    have hpo1 : 1 ≤ (sgOUw rw ord e a b w ord).1 := hpo.1
    have hpo2 : 1 ≤ (sgOUw rw ord e a b w ord).2 := hpo.2
    have hlt1 : (sgOUw rw ord e a b w ord).1 < 2147483648 := hlt.1
    have hlt2 : (sgOUw rw ord e a b w ord).2 < 2147483648 := hlt.2
    refine lv_aload_n hx hb dX6_reckon_127 rfl (lv_at hl 1 rfl) ?_
    refine va_get (D := D) (ci := 6) (v := .long (lN ((sgOUw rw ord e a b w ord).1))) (C := RX6) (T := TX6) (N := 12) hx hb hts hinX6 hown hK.1 hP 0 rfl rfl 9 (by decide) (hts _ fl_X6_76) (fun _ h9 => h9) rfl dX6_reckon_128 ?_
    refine lv_lstore hx hb dX6_reckon_131 hl (by decide) rfl (fun ls hl => ?_)
    have hl : lv_has ls 10 [(4, .long (lN ((sgOUw rw ord e a b w ord).1))), (0, .ref m), (1, .int (nI a)), (2, .int (nI b)), (3, .int (nI w))] := hl
    refine lv_aload_n hx hb dX6_reckon_133 rfl (lv_at hl 1 rfl) ?_
    refine va_get (D := D) (ci := 6) (v := .long (lN ((sgOUw rw ord e a b w ord).2))) (C := RX6) (T := TX6) (N := 12) hx hb hts hinX6 hown hK.1 hP 0 rfl rfl 10 (by decide) (hts _ fl_X6_82) (fun _ h9 => h9) rfl dX6_reckon_134 ?_
    refine lv_lstore hx hb dX6_reckon_137 hl (by decide) rfl (fun ls hl => ?_)
    have hl : lv_has ls 10 [(6, .long (lN ((sgOUw rw ord e a b w ord).2))), (4, .long (lN ((sgOUw rw ord e a b w ord).1))), (0, .ref m), (1, .int (nI a)), (2, .int (nI b)), (3, .int (nI w))] := hl
    refine sw_loop (I := fun kM ls H locs => ∃ (d : Nat) (r : Nat), kM = r ∧ lv_has ls 10 [(6, .long (lN r)), (4, .long (lN d)), (0, .ref m), (1, .int (nI a)), (2, .int (nI b)), (3, .int (nI w))] ∧ va_P D vwCl [(m, .inr (6, [.int (nI ord), .ref me, .int (nI ns), .ref ml, .ref mw, .int (nI E), .ref wa, .ref wb, .ref wf, .long (lN ((sgOUw rw ord e a b w ord).1)), .long (lN ((sgOUw rw ord e a b w ord).2)), .ref li])), (me, .inl (cI, 4, .inl ge)), (ml, .inl (cI, 9, .inl gL)), (mw, .inl (cI, 72, .inl gW)), (wa, .inl (cI, 72, .inl ga)), (wb, .inl (cI, 72, .inl gb)), (wf, .inl (cI, 72, .inl gf)), (li, .inl (cI, 240, .inl lim))] H ∧ va_D A [(m, .inr (6, [.int (nI ord), .ref me, .int (nI ns), .ref ml, .ref mw, .int (nI E), .ref wa, .ref wb, .ref wf, .long (lN ((sgOUw rw ord e a b w ord).1)), .long (lN ((sgOUw rw ord e a b w ord).2)), .ref li])), (me, .inl (cI, 4, .inl ge)), (ml, .inl (cI, 9, .inl gL)), (mw, .inl (cI, 72, .inl gW)), (wa, .inl (cI, 72, .inl ga)), (wb, .inl (cI, 72, .inl gb)), (wf, .inl (cI, 72, .inl gf)), (li, .inl (cI, 240, .inl lim))] ∧ va_S A sZ.heap H locs ∧ (Nat.gcd d r = Nat.gcd (sgOUw rw ord e a b w ord).1 (sgOUw rw ord e a b w ord).2) ∧ (d < 2147483648) ∧ (r < 2147483648)) ?_ _ ⟨(sgOUw rw ord e a b w ord).1, (sgOUw rw ord e a b w ord).2, rfl, hl, hP, hD, hS, rfl, hlt1, hlt2⟩
    intro kM ls H locs hI ih139
    obtain ⟨d, r, hkM, hl, hP, hD, hS, hg, hd, hr2⟩ := hI
    refine lv_lload hx hb dX6_reckon_139 (lv_at hl 0 rfl) ?_
    refine lv_lconst (v := lN 0) hx hb dX6_reckon_141 (by decide) ?_
    refine W.lcmp hx hb dX6_reckon_142 ?_
    refine ci_if_eq (X := (if 0 < r then (1 : Int) else if r = 0 then 0 else -1)) (tgt := 164) hx hb (sg_cmp (by omega) (by omega)) dX6_reckon_143 rfl (fun h143 => ?_) (fun h143 => ?_)
    · have hr0 : r = 0 := by omega
      have hdd : d = Nat.gcd (sgOUw rw ord e a b w ord).1 (sgOUw rw ord e a b w ord).2 := by rw [← hg, hr0, Nat.gcd_zero_right]
      have hg0 : 0 < d := by rw [hdd]; exact Nat.gcd_pos_of_pos_right _ (by omega)
      refine lv_aload_n hx hb dX6_reckon_164 rfl (lv_at hl 2 rfl) ?_
      refine lv_aload_n hx hb dX6_reckon_165 rfl (lv_at hl 2 rfl) ?_
      refine va_get (D := D) (ci := 6) (v := .long (lN ((sgOUw rw ord e a b w ord).1))) (C := RX6) (T := TX6) (N := 12) hx hb hts hinX6 hown hK.1 hP 0 rfl rfl 9 (by decide) (hts _ fl_X6_76) (fun _ h9 => h9) rfl dX6_reckon_166 ?_
      refine lv_lload hx hb dX6_reckon_169 (lv_at hl 1 rfl) ?_
      refine n_ldiv hx hb dX6_reckon_171 (by omega) (by omega) (by omega) ?_
      refine va_put (D := D) (ci := 6) (v := .long (lN (((sgOUw rw ord e a b w ord).1) / d))) (ty := .long) (C := RX6) (T := TX6) (N := 12) hx hb hts hinX6 tyX6 tyX6_ok nmX6 hown hK.1 hP hD hS 0 rfl rfl 9 (by decide) (hts _ fl_X6_76) (fun _ h9 => h9) rfl (by decide +kernel) rfl rfl (Nat.le_of_ble_eq_true rfl) dX6_reckon_172 (fun H locs hP hD hS => ?_)
      have hP : va_P D vwCl [(m, .inr (6, [.int (nI ord), .ref me, .int (nI ns), .ref ml, .ref mw, .int (nI E), .ref wa, .ref wb, .ref wf, .long (lN (((sgOUw rw ord e a b w ord).1) / d)), .long (lN ((sgOUw rw ord e a b w ord).2)), .ref li])), (me, .inl (cI, 4, .inl ge)), (ml, .inl (cI, 9, .inl gL)), (mw, .inl (cI, 72, .inl gW)), (wa, .inl (cI, 72, .inl ga)), (wb, .inl (cI, 72, .inl gb)), (wf, .inl (cI, 72, .inl gf)), (li, .inl (cI, 240, .inl lim))] H := hP
      have hD : va_D A [(m, .inr (6, [.int (nI ord), .ref me, .int (nI ns), .ref ml, .ref mw, .int (nI E), .ref wa, .ref wb, .ref wf, .long (lN (((sgOUw rw ord e a b w ord).1) / d)), .long (lN ((sgOUw rw ord e a b w ord).2)), .ref li])), (me, .inl (cI, 4, .inl ge)), (ml, .inl (cI, 9, .inl gL)), (mw, .inl (cI, 72, .inl gW)), (wa, .inl (cI, 72, .inl ga)), (wb, .inl (cI, 72, .inl gb)), (wf, .inl (cI, 72, .inl gf)), (li, .inl (cI, 240, .inl lim))] := hD
      refine lv_aload_n hx hb dX6_reckon_175 rfl (lv_at hl 2 rfl) ?_
      refine lv_aload_n hx hb dX6_reckon_176 rfl (lv_at hl 2 rfl) ?_
      refine va_get (D := D) (ci := 6) (v := .long (lN ((sgOUw rw ord e a b w ord).2))) (C := RX6) (T := TX6) (N := 12) hx hb hts hinX6 hown hK.1 hP 0 rfl rfl 10 (by decide) (hts _ fl_X6_82) (fun _ h9 => h9) rfl dX6_reckon_177 ?_
      refine lv_lload hx hb dX6_reckon_180 (lv_at hl 1 rfl) ?_
      refine n_ldiv hx hb dX6_reckon_182 (by omega) (by omega) (by omega) ?_
      refine va_put (D := D) (ci := 6) (v := .long (lN (((sgOUw rw ord e a b w ord).2) / d))) (ty := .long) (C := RX6) (T := TX6) (N := 12) hx hb hts hinX6 tyX6 tyX6_ok nmX6 hown hK.1 hP hD hS 0 rfl rfl 10 (by decide) (hts _ fl_X6_82) (fun _ h9 => h9) rfl (by decide +kernel) rfl rfl (Nat.le_of_ble_eq_true rfl) dX6_reckon_183 (fun H locs hP hD hS => ?_)
      have hP : va_P D vwCl [(m, .inr (6, [.int (nI ord), .ref me, .int (nI ns), .ref ml, .ref mw, .int (nI E), .ref wa, .ref wb, .ref wf, .long (lN (((sgOUw rw ord e a b w ord).1) / d)), .long (lN (((sgOUw rw ord e a b w ord).2) / d)), .ref li])), (me, .inl (cI, 4, .inl ge)), (ml, .inl (cI, 9, .inl gL)), (mw, .inl (cI, 72, .inl gW)), (wa, .inl (cI, 72, .inl ga)), (wb, .inl (cI, 72, .inl gb)), (wf, .inl (cI, 72, .inl gf)), (li, .inl (cI, 240, .inl lim))] H := hP
      have hD : va_D A [(m, .inr (6, [.int (nI ord), .ref me, .int (nI ns), .ref ml, .ref mw, .int (nI E), .ref wa, .ref wb, .ref wf, .long (lN (((sgOUw rw ord e a b w ord).1) / d)), .long (lN (((sgOUw rw ord e a b w ord).2) / d)), .ref li])), (me, .inl (cI, 4, .inl ge)), (ml, .inl (cI, 9, .inl gL)), (mw, .inl (cI, 72, .inl gW)), (wa, .inl (cI, 72, .inl ga)), (wb, .inl (cI, 72, .inl gb)), (wf, .inl (cI, 72, .inl gf)), (li, .inl (cI, 240, .inl lim))] := hD
      exact W.vret hx hb hr (fun tZ ht hW => ⟨⟨(), rfl, trivial, by subst hdd; show va_P D vwCl _ tZ.heap; rw [ht]; exact hP⟩, hS.F ht⟩) hS.2.2 dX6_reckon_186
    · refine lv_lload hx hb dX6_reckon_146 (lv_at hl 1 rfl) ?_
      refine lv_lload hx hb dX6_reckon_148 (lv_at hl 0 rfl) ?_
      refine n_lrem hx hb dX6_reckon_150 (by omega) (by omega) (by omega) ?_
      refine lv_lstore hx hb dX6_reckon_151 hl (by decide) rfl (fun ls hl => ?_)
      have hl : lv_has ls 10 [(8, .long (lN (d % r))), (6, .long (lN r)), (4, .long (lN d)), (0, .ref m), (1, .int (nI a)), (2, .int (nI b)), (3, .int (nI w))] := hl
      refine lv_lload hx hb dX6_reckon_153 (lv_at hl 1 rfl) ?_
      refine lv_lstore hx hb dX6_reckon_155 hl (by decide) rfl (fun ls hl => ?_)
      have hl : lv_has ls 10 [(4, .long (lN r)), (8, .long (lN (d % r))), (6, .long (lN r)), (0, .ref m), (1, .int (nI a)), (2, .int (nI b)), (3, .int (nI w))] := hl
      refine lv_lload hx hb dX6_reckon_157 (lv_at hl 1 rfl) ?_
      refine lv_lstore hx hb dX6_reckon_159 hl (by decide) rfl (fun ls hl => ?_)
      have hl : lv_has ls 10 [(6, .long (lN (d % r))), (4, .long (lN r)), (8, .long (lN (d % r))), (0, .ref m), (1, .int (nI a)), (2, .int (nI b)), (3, .int (nI w))] := hl
      refine lv_goto (tgt := 139) hx hb dX6_reckon_161 rfl ?_
      exact ih139 _ _ _ _ ⟨r, d % r, rfl, lv_sub hl [0, 1, 3, 4, 5, 6] rfl, hP, hD, hS, by rw [Nat.gcd_comm r, ← Nat.gcd_rec, Nat.gcd_comm]; exact hg, hr2, Nat.lt_of_le_of_lt (Nat.mod_le _ _) hd⟩ (by rw [hkM]; exact Nat.mod_lt _ (by omega))
  · have hT : sgTot rw ord (t + 1) a b 6 ≤ 72 := sgTot_le hB ord (t + 1) a b (Nat.le_refl 6)
    have hC : sgC rw ord (t + 1) a b w ≤ 72 := sgC_le hB ord (t + 1) a b w
    have hKd : sgKin rw ord (t + 1) a b 6 ≤ 6 := sgKin_le rw ord (t + 1) a b 6
    have he := hE (t + 1) (by omega) (by omega)
    refine lv_aload_n hx hb dX6_reckon_24 rfl (lv_at hl 1 rfl) ?_
    refine lv_iload hx hb dX6_reckon_25 (lv_at hl 0 rfl) ?_
    refine lv_iload_n hx hb dX6_reckon_27 rfl (lv_at hl 2 rfl) ?_
    refine lv_iload_n hx hb dX6_reckon_28 rfl (lv_at hl 3 rfl) ?_
    refine sg_callRi (va_runV (As := [.int (nI (t + 1)), .int (nI a), .int (nI b)]) (rest := []) (C := RX6) ⟨hx, hb, hml, hown, hts⟩ (c_X6_totalOf l D cI cO m me ml mw wa wb wf li ord ns (lN ((sgOUw rw ord e a b w t).1)) (lN ((sgOUw rw ord e a b w t).2)) ge gL gW ga gb gf lim E rw (t + 1) (nI a) (nI b) a b hEv hB (by omega) (by omega) (fun _ => rfl) (fun _ => rfl) (by omega) (by omega)) ⟨(sg_cB 3 hts mcX6_totalOf ml_X6_66 in_X6 rfl rfl (by decide +kernel) ⟨Nat.le_of_ble_eq_true rfl, Nat.le_of_ble_eq_true rfl⟩), hts _ im_X6_totalOf, hts _ se_X6_totalOf⟩ (sg_pV (q0 := 0) hK hP [0, 1, 2, 3, 4, 5, 6, 7] rfl rfl rfl rfl) rfl rfl hl.1 rfl (lv_room (Nat.le_of_ble_eq_true rfl)) dX6_reckon_29 ⟨Nat.zero_le _, Nat.zero_le _⟩) ?_
    refine lv_istore hx hb dX6_reckon_32 hl (by decide) rfl (fun ls hl => ?_)
    have hl : lv_has ls 10 [(5, .int (nI (sgTot rw ord (t + 1) a b 6))), (4, .int (nI (t + 1))), (0, .ref m), (1, .int (nI a)), (2, .int (nI b)), (3, .int (nI w))] := hl
    refine lv_iload hx hb dX6_reckon_34 (lv_at hl 0 rfl) ?_
    refine ci_if_le (X := ((sgTot rw ord (t + 1) a b 6 : Nat) : Int)) (tgt := 121) hx hb (sg_n (by omega)) dX6_reckon_36 rfl (fun h36 => ?_) (fun h36 => ?_)
    · have z1 : (sgOUw rw ord e a b w t).1 = (sgOUw rw ord e a b w (t + 1)).1 := by rw [sgOUw_1]; unfold sgS1; first | rw [if_pos (by omega)] | rw [if_neg (by omega)]
      have z2 : (sgOUw rw ord e a b w t).2 = (sgOUw rw ord e a b w (t + 1)).2 := by rw [sgOUw_2]; unfold sgS2; first | rw [if_pos (by omega)] | rw [if_neg (by omega)]
      rw [z1, z2] at hP hD
      have hP : va_P D vwCl [(m, .inr (6, [.int (nI ord), .ref me, .int (nI ns), .ref ml, .ref mw, .int (nI E), .ref wa, .ref wb, .ref wf, .long (lN ((sgOUw rw ord e a b w (t + 1)).1)), .long (lN ((sgOUw rw ord e a b w (t + 1)).2)), .ref li])), (me, .inl (cI, 4, .inl ge)), (ml, .inl (cI, 9, .inl gL)), (mw, .inl (cI, 72, .inl gW)), (wa, .inl (cI, 72, .inl ga)), (wb, .inl (cI, 72, .inl gb)), (wf, .inl (cI, 72, .inl gf)), (li, .inl (cI, 240, .inl lim))] H := hP
      have hD : va_D A [(m, .inr (6, [.int (nI ord), .ref me, .int (nI ns), .ref ml, .ref mw, .int (nI E), .ref wa, .ref wb, .ref wf, .long (lN ((sgOUw rw ord e a b w (t + 1)).1)), .long (lN ((sgOUw rw ord e a b w (t + 1)).2)), .ref li])), (me, .inl (cI, 4, .inl ge)), (ml, .inl (cI, 9, .inl gL)), (mw, .inl (cI, 72, .inl gW)), (wa, .inl (cI, 72, .inl ga)), (wb, .inl (cI, 72, .inl gb)), (wf, .inl (cI, 72, .inl gf)), (li, .inl (cI, 240, .inl lim))] := hD
      refine lv_iinc (v := nI ((t + 1) + 1)) hx hb dX6_reckon_121 hl (k := 1) rfl (sg_inc _) (by decide) rfl (fun ls hl => ?_)
      have hl : lv_has ls 10 [(4, .int (nI ((t + 1) + 1))), (5, .int (nI (sgTot rw ord (t + 1) a b 6))), (0, .ref m), (1, .int (nI a)), (2, .int (nI b)), (3, .int (nI w))] := hl
      refine lv_goto (tgt := 15) hx hb dX6_reckon_124 rfl ?_
      exact ih15 _ _ _ _ ⟨t + 1, rfl, lv_sub hl [0, 2, 3, 4, 5] rfl, hP, hD, hS, by omega⟩ (by omega)
    · refine lv_aload_n hx hb dX6_reckon_39 rfl (lv_at hl 2 rfl) ?_
      refine va_get (D := D) (ci := 6) (v := .ref me) (C := RX6) (T := TX6) (N := 12) hx hb hts hinX6 hown hK.1 hP 0 rfl rfl 1 (by decide) (hts _ fl_X6_13) (fun _ h9 => h9) rfl dX6_reckon_40 ?_
      refine lv_iload hx hb dX6_reckon_43 (lv_at hl 1 rfl) ?_
      refine n_iald (v := nI (e (t + 1))) hx hb hK.1 hP 1 0 rfl rfl (by omega) (by omega) (hge _ (by omega) (by omega)) dX6_reckon_45 ?_
      refine lv_istore hx hb dX6_reckon_46 hl (by decide) rfl (fun ls hl => ?_)
      have hl : lv_has ls 10 [(6, .int (nI (e (t + 1)))), (5, .int (nI (sgTot rw ord (t + 1) a b 6))), (4, .int (nI (t + 1))), (0, .ref m), (1, .int (nI a)), (2, .int (nI b)), (3, .int (nI w))] := hl
      refine lv_bipush (v := nI 8) hx hb dX6_reckon_48 (by decide) ?_
      refine lv_aload_n hx hb dX6_reckon_50 rfl (lv_at hl 3 rfl) ?_
      refine lv_iload hx hb dX6_reckon_51 (lv_at hl 2 rfl) ?_
      refine lv_iload_n hx hb dX6_reckon_53 rfl (lv_at hl 4 rfl) ?_
      refine lv_iload_n hx hb dX6_reckon_54 rfl (lv_at hl 5 rfl) ?_
      refine lv_iload_n hx hb dX6_reckon_55 rfl (lv_at hl 6 rfl) ?_
      refine sg_callRi (va_runV (As := [.int (nI (t + 1)), .int (nI a), .int (nI b), .int (nI w)]) (rest := [.int (nI 8)]) (C := RX6) ⟨hx, hb, hml, hown, hts⟩ (c_X6_countOf l D cI cO m me ml mw wa wb wf li ord ns (lN ((sgOUw rw ord e a b w t).1)) (lN ((sgOUw rw ord e a b w t).2)) ge gL gW ga gb gf lim E rw (t + 1) (nI a) (nI b) a b w hEv hB (by omega) (by omega) (fun _ => rfl) (fun _ => rfl) (by omega) (by omega) (by omega)) ⟨(sg_cB 4 hts mcX6_countOf ml_X6_63 in_X6 rfl rfl (by decide +kernel) ⟨Nat.le_of_ble_eq_true rfl, Nat.le_of_ble_eq_true rfl⟩), hts _ im_X6_countOf, hts _ se_X6_countOf⟩ (sg_pV (q0 := 0) hK hP [0, 1, 2, 3, 4, 5, 6, 7] rfl rfl rfl rfl) rfl rfl hl.1 rfl (lv_room (Nat.le_of_ble_eq_true rfl)) dX6_reckon_56 ⟨Nat.zero_le _, Nat.zero_le _⟩) ?_
      refine n_imul hx hb dX6_reckon_59 ?_
      refine lv_iload hx hb dX6_reckon_60 (lv_at hl 0 rfl) ?_
      refine lv_isub hx hb dX6_reckon_62 ?_
      refine lv_istore hx hb dX6_reckon_63 hl (by decide) rfl (fun ls hl => ?_)
      have hl : lv_has ls 10 [(7, .int ((nI (8 * (sgC rw ord (t + 1) a b w))) - (nI (e (t + 1))))), (6, .int (nI (e (t + 1)))), (5, .int (nI (sgTot rw ord (t + 1) a b 6))), (4, .int (nI (t + 1))), (0, .ref m), (1, .int (nI a)), (2, .int (nI b)), (3, .int (nI w))] := hl
      refine lv_aload_n hx hb dX6_reckon_65 rfl (lv_at hl 4 rfl) ?_
      refine lv_iload hx hb dX6_reckon_66 (lv_at hl 0 rfl) ?_
      refine ci_if_le (X := (((8 * (sgC rw ord (t + 1) a b w) : Nat) : Int) - ((e (t + 1) : Nat) : Int))) (tgt := 76) hx hb (pk_sub_toInt (by omega) (by omega)) dX6_reckon_68 rfl (fun h68 => ?_) (fun h68 => ?_)
      · refine lv_iconst (v := nI 0) hx hb dX6_reckon_76 (by decide) ?_
        refine sw_i (y := nI (8 * sgC rw ord (t + 1) a b w - e (t + 1))) (congrArg nI (by omega)) ?_
        refine n_i2l hx hb (by omega) dX6_reckon_77 ?_
        refine lv_aload_n hx hb dX6_reckon_78 rfl (lv_at hl 4 rfl) ?_
        refine va_get (D := D) (ci := 6) (v := .long (lN ((sgOUw rw ord e a b w t).2))) (C := RX6) (T := TX6) (N := 12) hx hb hts hinX6 hown hK.1 hP 0 rfl rfl 10 (by decide) (hts _ fl_X6_82) (fun _ h9 => h9) rfl dX6_reckon_79 ?_
        refine n_lmul hx hb dX6_reckon_82 ?_
        refine lv_iload hx hb dX6_reckon_83 (lv_at hl 1 rfl) ?_
        refine n_i2l hx hb (by omega) dX6_reckon_85 ?_
        refine lv_aload_n hx hb dX6_reckon_86 rfl (lv_at hl 4 rfl) ?_
        refine lv_iload hx hb dX6_reckon_87 (lv_at hl 3 rfl) ?_
        refine lv_iload_n hx hb dX6_reckon_89 rfl (lv_at hl 5 rfl) ?_
        refine lv_iload_n hx hb dX6_reckon_90 rfl (lv_at hl 6 rfl) ?_
        refine sg_callRi (va_runV (As := [.int (nI (t + 1)), .int (nI a), .int (nI b)]) (rest := [.long (lN (e (t + 1))), .long (lN ((8 * sgC rw ord (t + 1) a b w - e (t + 1)) * ((sgOUw rw ord e a b w t).2))), .ref m]) (C := RX6) ⟨hx, hb, hml, hown, hts⟩ (c_X6_kindsOf l D cI cO m me ml mw wa wb wf li ord ns (lN ((sgOUw rw ord e a b w t).1)) (lN ((sgOUw rw ord e a b w t).2)) ge gL gW ga gb gf lim E rw (t + 1) (nI a) (nI b) a b hEv hB (by omega) (by omega) (fun _ => rfl) (fun _ => rfl) (by omega) (by omega)) ⟨(sg_cB 3 hts mcX6_kindsOf ml_X6_70 in_X6 rfl rfl (by decide +kernel) ⟨Nat.le_of_ble_eq_true rfl, Nat.le_of_ble_eq_true rfl⟩), hts _ im_X6_kindsOf, hts _ se_X6_kindsOf⟩ (sg_pV (q0 := 0) hK hP [0, 1, 2, 3, 4, 5, 6, 7] rfl rfl rfl rfl) rfl rfl hl.1 rfl (lv_room (Nat.le_of_ble_eq_true rfl)) dX6_reckon_91 ⟨Nat.zero_le _, Nat.zero_le _⟩) ?_
        refine n_i2l hx hb (by omega) dX6_reckon_94 ?_
        refine n_lmul hx hb dX6_reckon_95 ?_
        refine lv_aload_n hx hb dX6_reckon_96 rfl (lv_at hl 4 rfl) ?_
        refine va_get (D := D) (ci := 6) (v := .long (lN ((sgOUw rw ord e a b w t).1))) (C := RX6) (T := TX6) (N := 12) hx hb hts hinX6 hown hK.1 hP 0 rfl rfl 9 (by decide) (hts _ fl_X6_76) (fun _ h9 => h9) rfl dX6_reckon_97 ?_
        refine n_lmul hx hb dX6_reckon_100 ?_
        refine n_ladd hx hb dX6_reckon_101 ?_
        refine va_put (D := D) (ci := 6) (v := .long (lN (((8 * sgC rw ord (t + 1) a b w - e (t + 1)) * ((sgOUw rw ord e a b w t).2)) + (((e (t + 1)) * (sgKin rw ord (t + 1) a b 6)) * ((sgOUw rw ord e a b w t).1))))) (ty := .long) (C := RX6) (T := TX6) (N := 12) hx hb hts hinX6 tyX6 tyX6_ok nmX6 hown hK.1 hP hD hS 0 rfl rfl 9 (by decide) (hts _ fl_X6_76) (fun _ h9 => h9) rfl (by decide +kernel) rfl rfl (Nat.le_of_ble_eq_true rfl) dX6_reckon_102 (fun H locs hP hD hS => ?_)
        have hP : va_P D vwCl [(m, .inr (6, [.int (nI ord), .ref me, .int (nI ns), .ref ml, .ref mw, .int (nI E), .ref wa, .ref wb, .ref wf, .long (lN (((8 * sgC rw ord (t + 1) a b w - e (t + 1)) * ((sgOUw rw ord e a b w t).2)) + (((e (t + 1)) * (sgKin rw ord (t + 1) a b 6)) * ((sgOUw rw ord e a b w t).1)))), .long (lN ((sgOUw rw ord e a b w t).2)), .ref li])), (me, .inl (cI, 4, .inl ge)), (ml, .inl (cI, 9, .inl gL)), (mw, .inl (cI, 72, .inl gW)), (wa, .inl (cI, 72, .inl ga)), (wb, .inl (cI, 72, .inl gb)), (wf, .inl (cI, 72, .inl gf)), (li, .inl (cI, 240, .inl lim))] H := hP
        have hD : va_D A [(m, .inr (6, [.int (nI ord), .ref me, .int (nI ns), .ref ml, .ref mw, .int (nI E), .ref wa, .ref wb, .ref wf, .long (lN (((8 * sgC rw ord (t + 1) a b w - e (t + 1)) * ((sgOUw rw ord e a b w t).2)) + (((e (t + 1)) * (sgKin rw ord (t + 1) a b 6)) * ((sgOUw rw ord e a b w t).1)))), .long (lN ((sgOUw rw ord e a b w t).2)), .ref li])), (me, .inl (cI, 4, .inl ge)), (ml, .inl (cI, 9, .inl gL)), (mw, .inl (cI, 72, .inl gW)), (wa, .inl (cI, 72, .inl ga)), (wb, .inl (cI, 72, .inl gb)), (wf, .inl (cI, 72, .inl gf)), (li, .inl (cI, 240, .inl lim))] := hD
        refine lv_aload_n hx hb dX6_reckon_105 rfl (lv_at hl 4 rfl) ?_
        refine lv_aload_n hx hb dX6_reckon_106 rfl (lv_at hl 4 rfl) ?_
        refine va_get (D := D) (ci := 6) (v := .long (lN ((sgOUw rw ord e a b w t).2))) (C := RX6) (T := TX6) (N := 12) hx hb hts hinX6 hown hK.1 hP 0 rfl rfl 10 (by decide) (hts _ fl_X6_82) (fun _ h9 => h9) rfl dX6_reckon_107 ?_
        refine lv_ldc2 (v := lN 8) hx hb hown (hts _ kl_X6_85) dX6_reckon_110 ?_
        refine n_lmul hx hb dX6_reckon_113 ?_
        refine lv_iload hx hb dX6_reckon_114 (lv_at hl 2 rfl) ?_
        refine n_i2l hx hb (by omega) dX6_reckon_116 ?_
        refine n_lmul hx hb dX6_reckon_117 ?_
        refine sw_l (y := lN (8 * sgTot rw ord (t + 1) a b 6 * (sgOUw rw ord e a b w t).2)) (congrArg lN (by rw [Nat.mul_assoc, Nat.mul_comm])) ?_
        refine va_put (D := D) (ci := 6) (v := .long (lN (8 * sgTot rw ord (t + 1) a b 6 * (sgOUw rw ord e a b w t).2))) (ty := .long) (C := RX6) (T := TX6) (N := 12) hx hb hts hinX6 tyX6 tyX6_ok nmX6 hown hK.1 hP hD hS 0 rfl rfl 10 (by decide) (hts _ fl_X6_82) (fun _ h9 => h9) rfl (by decide +kernel) rfl rfl (Nat.le_of_ble_eq_true rfl) dX6_reckon_118 (fun H locs hP hD hS => ?_)
        have hP : va_P D vwCl [(m, .inr (6, [.int (nI ord), .ref me, .int (nI ns), .ref ml, .ref mw, .int (nI E), .ref wa, .ref wb, .ref wf, .long (lN (((8 * sgC rw ord (t + 1) a b w - e (t + 1)) * ((sgOUw rw ord e a b w t).2)) + (((e (t + 1)) * (sgKin rw ord (t + 1) a b 6)) * ((sgOUw rw ord e a b w t).1)))), .long (lN (8 * sgTot rw ord (t + 1) a b 6 * (sgOUw rw ord e a b w t).2)), .ref li])), (me, .inl (cI, 4, .inl ge)), (ml, .inl (cI, 9, .inl gL)), (mw, .inl (cI, 72, .inl gW)), (wa, .inl (cI, 72, .inl ga)), (wb, .inl (cI, 72, .inl gb)), (wf, .inl (cI, 72, .inl gf)), (li, .inl (cI, 240, .inl lim))] H := hP
        have hD : va_D A [(m, .inr (6, [.int (nI ord), .ref me, .int (nI ns), .ref ml, .ref mw, .int (nI E), .ref wa, .ref wb, .ref wf, .long (lN (((8 * sgC rw ord (t + 1) a b w - e (t + 1)) * ((sgOUw rw ord e a b w t).2)) + (((e (t + 1)) * (sgKin rw ord (t + 1) a b 6)) * ((sgOUw rw ord e a b w t).1)))), .long (lN (8 * sgTot rw ord (t + 1) a b 6 * (sgOUw rw ord e a b w t).2)), .ref li])), (me, .inl (cI, 4, .inl ge)), (ml, .inl (cI, 9, .inl gL)), (mw, .inl (cI, 72, .inl gW)), (wa, .inl (cI, 72, .inl ga)), (wb, .inl (cI, 72, .inl gb)), (wf, .inl (cI, 72, .inl gf)), (li, .inl (cI, 240, .inl lim))] := hD
        have z1 : ((8 * sgC rw ord (t + 1) a b w - e (t + 1)) * ((sgOUw rw ord e a b w t).2)) + (((e (t + 1)) * (sgKin rw ord (t + 1) a b 6)) * ((sgOUw rw ord e a b w t).1)) = (sgOUw rw ord e a b w (t + 1)).1 := by rw [sgOUw_1]; unfold sgS1; first | rw [if_pos (by omega)] | rw [if_neg (by omega)]
        have z2 : 8 * sgTot rw ord (t + 1) a b 6 * (sgOUw rw ord e a b w t).2 = (sgOUw rw ord e a b w (t + 1)).2 := by rw [sgOUw_2]; unfold sgS2; first | rw [if_pos (by omega)] | rw [if_neg (by omega)]
        rw [z1, z2] at hP hD
        have hP : va_P D vwCl [(m, .inr (6, [.int (nI ord), .ref me, .int (nI ns), .ref ml, .ref mw, .int (nI E), .ref wa, .ref wb, .ref wf, .long (lN ((sgOUw rw ord e a b w (t + 1)).1)), .long (lN ((sgOUw rw ord e a b w (t + 1)).2)), .ref li])), (me, .inl (cI, 4, .inl ge)), (ml, .inl (cI, 9, .inl gL)), (mw, .inl (cI, 72, .inl gW)), (wa, .inl (cI, 72, .inl ga)), (wb, .inl (cI, 72, .inl gb)), (wf, .inl (cI, 72, .inl gf)), (li, .inl (cI, 240, .inl lim))] H := hP
        have hD : va_D A [(m, .inr (6, [.int (nI ord), .ref me, .int (nI ns), .ref ml, .ref mw, .int (nI E), .ref wa, .ref wb, .ref wf, .long (lN ((sgOUw rw ord e a b w (t + 1)).1)), .long (lN ((sgOUw rw ord e a b w (t + 1)).2)), .ref li])), (me, .inl (cI, 4, .inl ge)), (ml, .inl (cI, 9, .inl gL)), (mw, .inl (cI, 72, .inl gW)), (wa, .inl (cI, 72, .inl ga)), (wb, .inl (cI, 72, .inl gb)), (wf, .inl (cI, 72, .inl gf)), (li, .inl (cI, 240, .inl lim))] := hD
        refine lv_iinc (v := nI ((t + 1) + 1)) hx hb dX6_reckon_121 hl (k := 3) rfl (sg_inc _) (by decide) rfl (fun ls hl => ?_)
        have hl : lv_has ls 10 [(4, .int (nI ((t + 1) + 1))), (7, .int ((nI (8 * (sgC rw ord (t + 1) a b w))) - (nI (e (t + 1))))), (6, .int (nI (e (t + 1)))), (5, .int (nI (sgTot rw ord (t + 1) a b 6))), (0, .ref m), (1, .int (nI a)), (2, .int (nI b)), (3, .int (nI w))] := hl
        refine lv_goto (tgt := 15) hx hb dX6_reckon_124 rfl ?_
        exact ih15 _ _ _ _ ⟨t + 1, rfl, lv_sub hl [0, 4, 5, 6, 7] rfl, hP, hD, hS, by omega⟩ (by omega)
      · refine lv_iload hx hb dX6_reckon_71 (lv_at hl 0 rfl) ?_
        refine sw_i (y := nI (8 * sgC rw ord (t + 1) a b w - e (t + 1))) (pk_sub (by omega)) ?_
        refine lv_goto (tgt := 77) hx hb dX6_reckon_73 rfl ?_
        refine n_i2l hx hb (by omega) dX6_reckon_77 ?_
        refine lv_aload_n hx hb dX6_reckon_78 rfl (lv_at hl 4 rfl) ?_
        refine va_get (D := D) (ci := 6) (v := .long (lN ((sgOUw rw ord e a b w t).2))) (C := RX6) (T := TX6) (N := 12) hx hb hts hinX6 hown hK.1 hP 0 rfl rfl 10 (by decide) (hts _ fl_X6_82) (fun _ h9 => h9) rfl dX6_reckon_79 ?_
        refine n_lmul hx hb dX6_reckon_82 ?_
        refine lv_iload hx hb dX6_reckon_83 (lv_at hl 1 rfl) ?_
        refine n_i2l hx hb (by omega) dX6_reckon_85 ?_
        refine lv_aload_n hx hb dX6_reckon_86 rfl (lv_at hl 4 rfl) ?_
        refine lv_iload hx hb dX6_reckon_87 (lv_at hl 3 rfl) ?_
        refine lv_iload_n hx hb dX6_reckon_89 rfl (lv_at hl 5 rfl) ?_
        refine lv_iload_n hx hb dX6_reckon_90 rfl (lv_at hl 6 rfl) ?_
        refine sg_callRi (va_runV (As := [.int (nI (t + 1)), .int (nI a), .int (nI b)]) (rest := [.long (lN (e (t + 1))), .long (lN ((8 * sgC rw ord (t + 1) a b w - e (t + 1)) * ((sgOUw rw ord e a b w t).2))), .ref m]) (C := RX6) ⟨hx, hb, hml, hown, hts⟩ (c_X6_kindsOf l D cI cO m me ml mw wa wb wf li ord ns (lN ((sgOUw rw ord e a b w t).1)) (lN ((sgOUw rw ord e a b w t).2)) ge gL gW ga gb gf lim E rw (t + 1) (nI a) (nI b) a b hEv hB (by omega) (by omega) (fun _ => rfl) (fun _ => rfl) (by omega) (by omega)) ⟨(sg_cB 3 hts mcX6_kindsOf ml_X6_70 in_X6 rfl rfl (by decide +kernel) ⟨Nat.le_of_ble_eq_true rfl, Nat.le_of_ble_eq_true rfl⟩), hts _ im_X6_kindsOf, hts _ se_X6_kindsOf⟩ (sg_pV (q0 := 0) hK hP [0, 1, 2, 3, 4, 5, 6, 7] rfl rfl rfl rfl) rfl rfl hl.1 rfl (lv_room (Nat.le_of_ble_eq_true rfl)) dX6_reckon_91 ⟨Nat.zero_le _, Nat.zero_le _⟩) ?_
        refine n_i2l hx hb (by omega) dX6_reckon_94 ?_
        refine n_lmul hx hb dX6_reckon_95 ?_
        refine lv_aload_n hx hb dX6_reckon_96 rfl (lv_at hl 4 rfl) ?_
        refine va_get (D := D) (ci := 6) (v := .long (lN ((sgOUw rw ord e a b w t).1))) (C := RX6) (T := TX6) (N := 12) hx hb hts hinX6 hown hK.1 hP 0 rfl rfl 9 (by decide) (hts _ fl_X6_76) (fun _ h9 => h9) rfl dX6_reckon_97 ?_
        refine n_lmul hx hb dX6_reckon_100 ?_
        refine n_ladd hx hb dX6_reckon_101 ?_
        refine va_put (D := D) (ci := 6) (v := .long (lN (((8 * sgC rw ord (t + 1) a b w - e (t + 1)) * ((sgOUw rw ord e a b w t).2)) + (((e (t + 1)) * (sgKin rw ord (t + 1) a b 6)) * ((sgOUw rw ord e a b w t).1))))) (ty := .long) (C := RX6) (T := TX6) (N := 12) hx hb hts hinX6 tyX6 tyX6_ok nmX6 hown hK.1 hP hD hS 0 rfl rfl 9 (by decide) (hts _ fl_X6_76) (fun _ h9 => h9) rfl (by decide +kernel) rfl rfl (Nat.le_of_ble_eq_true rfl) dX6_reckon_102 (fun H locs hP hD hS => ?_)
        have hP : va_P D vwCl [(m, .inr (6, [.int (nI ord), .ref me, .int (nI ns), .ref ml, .ref mw, .int (nI E), .ref wa, .ref wb, .ref wf, .long (lN (((8 * sgC rw ord (t + 1) a b w - e (t + 1)) * ((sgOUw rw ord e a b w t).2)) + (((e (t + 1)) * (sgKin rw ord (t + 1) a b 6)) * ((sgOUw rw ord e a b w t).1)))), .long (lN ((sgOUw rw ord e a b w t).2)), .ref li])), (me, .inl (cI, 4, .inl ge)), (ml, .inl (cI, 9, .inl gL)), (mw, .inl (cI, 72, .inl gW)), (wa, .inl (cI, 72, .inl ga)), (wb, .inl (cI, 72, .inl gb)), (wf, .inl (cI, 72, .inl gf)), (li, .inl (cI, 240, .inl lim))] H := hP
        have hD : va_D A [(m, .inr (6, [.int (nI ord), .ref me, .int (nI ns), .ref ml, .ref mw, .int (nI E), .ref wa, .ref wb, .ref wf, .long (lN (((8 * sgC rw ord (t + 1) a b w - e (t + 1)) * ((sgOUw rw ord e a b w t).2)) + (((e (t + 1)) * (sgKin rw ord (t + 1) a b 6)) * ((sgOUw rw ord e a b w t).1)))), .long (lN ((sgOUw rw ord e a b w t).2)), .ref li])), (me, .inl (cI, 4, .inl ge)), (ml, .inl (cI, 9, .inl gL)), (mw, .inl (cI, 72, .inl gW)), (wa, .inl (cI, 72, .inl ga)), (wb, .inl (cI, 72, .inl gb)), (wf, .inl (cI, 72, .inl gf)), (li, .inl (cI, 240, .inl lim))] := hD
        refine lv_aload_n hx hb dX6_reckon_105 rfl (lv_at hl 4 rfl) ?_
        refine lv_aload_n hx hb dX6_reckon_106 rfl (lv_at hl 4 rfl) ?_
        refine va_get (D := D) (ci := 6) (v := .long (lN ((sgOUw rw ord e a b w t).2))) (C := RX6) (T := TX6) (N := 12) hx hb hts hinX6 hown hK.1 hP 0 rfl rfl 10 (by decide) (hts _ fl_X6_82) (fun _ h9 => h9) rfl dX6_reckon_107 ?_
        refine lv_ldc2 (v := lN 8) hx hb hown (hts _ kl_X6_85) dX6_reckon_110 ?_
        refine n_lmul hx hb dX6_reckon_113 ?_
        refine lv_iload hx hb dX6_reckon_114 (lv_at hl 2 rfl) ?_
        refine n_i2l hx hb (by omega) dX6_reckon_116 ?_
        refine n_lmul hx hb dX6_reckon_117 ?_
        refine sw_l (y := lN (8 * sgTot rw ord (t + 1) a b 6 * (sgOUw rw ord e a b w t).2)) (congrArg lN (by rw [Nat.mul_assoc, Nat.mul_comm])) ?_
        refine va_put (D := D) (ci := 6) (v := .long (lN (8 * sgTot rw ord (t + 1) a b 6 * (sgOUw rw ord e a b w t).2))) (ty := .long) (C := RX6) (T := TX6) (N := 12) hx hb hts hinX6 tyX6 tyX6_ok nmX6 hown hK.1 hP hD hS 0 rfl rfl 10 (by decide) (hts _ fl_X6_82) (fun _ h9 => h9) rfl (by decide +kernel) rfl rfl (Nat.le_of_ble_eq_true rfl) dX6_reckon_118 (fun H locs hP hD hS => ?_)
        have hP : va_P D vwCl [(m, .inr (6, [.int (nI ord), .ref me, .int (nI ns), .ref ml, .ref mw, .int (nI E), .ref wa, .ref wb, .ref wf, .long (lN (((8 * sgC rw ord (t + 1) a b w - e (t + 1)) * ((sgOUw rw ord e a b w t).2)) + (((e (t + 1)) * (sgKin rw ord (t + 1) a b 6)) * ((sgOUw rw ord e a b w t).1)))), .long (lN (8 * sgTot rw ord (t + 1) a b 6 * (sgOUw rw ord e a b w t).2)), .ref li])), (me, .inl (cI, 4, .inl ge)), (ml, .inl (cI, 9, .inl gL)), (mw, .inl (cI, 72, .inl gW)), (wa, .inl (cI, 72, .inl ga)), (wb, .inl (cI, 72, .inl gb)), (wf, .inl (cI, 72, .inl gf)), (li, .inl (cI, 240, .inl lim))] H := hP
        have hD : va_D A [(m, .inr (6, [.int (nI ord), .ref me, .int (nI ns), .ref ml, .ref mw, .int (nI E), .ref wa, .ref wb, .ref wf, .long (lN (((8 * sgC rw ord (t + 1) a b w - e (t + 1)) * ((sgOUw rw ord e a b w t).2)) + (((e (t + 1)) * (sgKin rw ord (t + 1) a b 6)) * ((sgOUw rw ord e a b w t).1)))), .long (lN (8 * sgTot rw ord (t + 1) a b 6 * (sgOUw rw ord e a b w t).2)), .ref li])), (me, .inl (cI, 4, .inl ge)), (ml, .inl (cI, 9, .inl gL)), (mw, .inl (cI, 72, .inl gW)), (wa, .inl (cI, 72, .inl ga)), (wb, .inl (cI, 72, .inl gb)), (wf, .inl (cI, 72, .inl gf)), (li, .inl (cI, 240, .inl lim))] := hD
        have z1 : ((8 * sgC rw ord (t + 1) a b w - e (t + 1)) * ((sgOUw rw ord e a b w t).2)) + (((e (t + 1)) * (sgKin rw ord (t + 1) a b 6)) * ((sgOUw rw ord e a b w t).1)) = (sgOUw rw ord e a b w (t + 1)).1 := by rw [sgOUw_1]; unfold sgS1; first | rw [if_pos (by omega)] | rw [if_neg (by omega)]
        have z2 : 8 * sgTot rw ord (t + 1) a b 6 * (sgOUw rw ord e a b w t).2 = (sgOUw rw ord e a b w (t + 1)).2 := by rw [sgOUw_2]; unfold sgS2; first | rw [if_pos (by omega)] | rw [if_neg (by omega)]
        rw [z1, z2] at hP hD
        have hP : va_P D vwCl [(m, .inr (6, [.int (nI ord), .ref me, .int (nI ns), .ref ml, .ref mw, .int (nI E), .ref wa, .ref wb, .ref wf, .long (lN ((sgOUw rw ord e a b w (t + 1)).1)), .long (lN ((sgOUw rw ord e a b w (t + 1)).2)), .ref li])), (me, .inl (cI, 4, .inl ge)), (ml, .inl (cI, 9, .inl gL)), (mw, .inl (cI, 72, .inl gW)), (wa, .inl (cI, 72, .inl ga)), (wb, .inl (cI, 72, .inl gb)), (wf, .inl (cI, 72, .inl gf)), (li, .inl (cI, 240, .inl lim))] H := hP
        have hD : va_D A [(m, .inr (6, [.int (nI ord), .ref me, .int (nI ns), .ref ml, .ref mw, .int (nI E), .ref wa, .ref wb, .ref wf, .long (lN ((sgOUw rw ord e a b w (t + 1)).1)), .long (lN ((sgOUw rw ord e a b w (t + 1)).2)), .ref li])), (me, .inl (cI, 4, .inl ge)), (ml, .inl (cI, 9, .inl gL)), (mw, .inl (cI, 72, .inl gW)), (wa, .inl (cI, 72, .inl ga)), (wb, .inl (cI, 72, .inl gb)), (wf, .inl (cI, 72, .inl gf)), (li, .inl (cI, 240, .inl lim))] := hD
        refine lv_iinc (v := nI ((t + 1) + 1)) hx hb dX6_reckon_121 hl (k := 3) rfl (sg_inc _) (by decide) rfl (fun ls hl => ?_)
        have hl : lv_has ls 10 [(4, .int (nI ((t + 1) + 1))), (7, .int ((nI (8 * (sgC rw ord (t + 1) a b w))) - (nI (e (t + 1))))), (6, .int (nI (e (t + 1)))), (5, .int (nI (sgTot rw ord (t + 1) a b 6))), (0, .ref m), (1, .int (nI a)), (2, .int (nI b)), (3, .int (nI w))] := hl
        refine lv_goto (tgt := 15) hx hb dX6_reckon_124 rfl ?_
        exact ih15 _ _ _ _ ⟨t + 1, rfl, lv_sub hl [0, 4, 5, 6, 7] rfl, hP, hD, hS, by omega⟩ (by omega)
set_option maxHeartbeats 4000000 in
set_option maxRecDepth 100000 in
theorem r_top_bad (l : Launch) (D : va_G) (cI cO : ClassId) (m : Nat) (me : Nat) (ml : Nat) (mw : Nat) (wa : Nat) (wb : Nat) (wf : Nat) (li : Nat) (ord : Nat) (ns : Nat) (ev : Int32) (y0 : Int64) (y1 : Int64) (ge : Nat → Int32) (gL : Nat → Int32) (gW : Nat → Int32) (ga : Nat → Int32) (gb : Nat → Int32) (gf : Nat → Int32) (lim : Nat → Int32) (a : Int32) (b : Int32) (w : Int32) (hn : ¬ ((0 ≤ a.toInt ∧ a.toInt < 7) ∧ (0 ≤ b.toInt ∧ b.toInt < 7) ∧ 0 ≤ w.toInt ∧ w.toInt < 6)) : Met l yX6_top (.code yX6_top cX6_top 4 (some .long) :: sgT) ({ frames := 4, cells := 0, slots := 0, locals := 108 }) (sgPc D cI cO [.ref m, .int a, .int b, .int w] [(m, .inr (6, [.int (nI ord), .ref me, .int (nI ns), .ref ml, .ref mw, .int ev, .ref wa, .ref wb, .ref wf, .long y0, .long y1, .ref li])), (me, .inl (cI, 4, .inl ge)), (ml, .inl (cI, 9, .inl gL)), (mw, .inl (cI, 72, .inl gW)), (wa, .inl (cI, 72, .inl ga)), (wb, .inl (cI, 72, .inl gb)), (wf, .inl (cI, 72, .inl gf)), (li, .inl (cI, 240, .inl lim))]) (vp_Sl (fun r => r = -1)) 0 0 (fun _ => False) := by
  refine Met.ofW (cc := cX6_top) (maxL := 4) (ret := (some .long)) (by decide) rfl ?_
  intro pZ eZ sZ mZ argsZ belowZ methZ cZ s₁ BZ hml hv
  obtain ⟨rfl, hP, hK⟩ := hv
  have hx := BZ.exec
  have hb := BZ.bytes
  have hr := BZ.returns
  have hts : ∀ wZ ∈ sgT, wZ.before ([.ref m, .int a, .int b, .int w] : List Value).toArray sZ = true := fun wZ h => atoms_spec (ws := (.code yX6_top cX6_top 4 (some .long) :: sgT)) BZ.pre wZ (List.mem_cons_of_mem _ h)
  have hown : sZ.vm.findClass RX6 = some mZ.cls := findClass_of_methodNamed BZ.named
  have hlocks := BZ.notSynchronized
  have hl := lv_entry ([.ref m, .int a, .int b, .int w]) (n := 4) (Nat.le_of_ble_eq_true rfl)
  rw [lg_entry_eq]
  generalize (lg_sl ([.ref m, .int a, .int b, .int w]) ++ List.replicate (4 - (lg_sl ([.ref m, .int a, .int b, .int w])).length) Slot.unset).toArray = ls at hl ⊢
  have hl : lv_has ls 4 [(0, .ref m), (1, .int a), (2, .int b), (3, .int w)] := hl
  refine lv_iload_n hx hb dX6_top_0 rfl (lv_at hl 1 rfl) ?_
  refine sg_callRi (va_runS (As := [.int a]) (rest := []) ⟨hx, hb, hml, hown, hts⟩ (c_X6_isSymbol l D cI cO a) ⟨(sg_cB 1 hts mcX6_isSymbol ml_X6_53 in_X6 rfl rfl (by decide +kernel) ⟨Nat.le_of_ble_eq_true rfl, Nat.le_of_ble_eq_true rfl⟩), hts _ st_X6_isSymbol⟩ (sg_pS hK hP [] rfl) rfl rfl hl.1 rfl (lv_room (Nat.le_of_ble_eq_true rfl)) dX6_top_1 ⟨Nat.zero_le _, Nat.zero_le _⟩) ?_
  refine ci_beq (P := (0 ≤ a.toInt ∧ a.toInt < 7)) (tgt := 21) hx hb dX6_top_4 rfl (fun h4 => ?_) (fun h4 => ?_)
  · refine lv_ldc2 (v := -1) hx hb hown (hts _ kl_X6_90) dX6_top_21 ?_
    exact W.lret hx hb hr (fun tZ ht hW => ⟨_, rfl, rfl, ht⟩) (fun q h => by cases h) dX6_top_24
  · refine lv_iload_n hx hb dX6_top_7 rfl (lv_at hl 2 rfl) ?_
    refine sg_callRi (va_runS (As := [.int b]) (rest := []) ⟨hx, hb, hml, hown, hts⟩ (c_X6_isSymbol l D cI cO b) ⟨(sg_cB 1 hts mcX6_isSymbol ml_X6_53 in_X6 rfl rfl (by decide +kernel) ⟨Nat.le_of_ble_eq_true rfl, Nat.le_of_ble_eq_true rfl⟩), hts _ st_X6_isSymbol⟩ (sg_pS hK hP [] rfl) rfl rfl hl.1 rfl (lv_room (Nat.le_of_ble_eq_true rfl)) dX6_top_8 ⟨Nat.zero_le _, Nat.zero_le _⟩) ?_
    refine ci_beq (P := (0 ≤ b.toInt ∧ b.toInt < 7)) (tgt := 21) hx hb dX6_top_11 rfl (fun h11 => ?_) (fun h11 => ?_)
    · refine lv_ldc2 (v := -1) hx hb hown (hts _ kl_X6_90) dX6_top_21 ?_
      exact W.lret hx hb hr (fun tZ ht hW => ⟨_, rfl, rfl, ht⟩) (fun q h => by cases h) dX6_top_24
    · refine lv_iload_n hx hb dX6_top_14 rfl (lv_at hl 3 rfl) ?_
      refine sg_callRi (va_runS (As := [.int w]) (rest := []) ⟨hx, hb, hml, hown, hts⟩ (c_X6_isWord l D cI cO w) ⟨(sg_cB 1 hts mcX6_isWord ml_X6_87 in_X6 rfl rfl (by decide +kernel) ⟨Nat.le_of_ble_eq_true rfl, Nat.le_of_ble_eq_true rfl⟩), hts _ st_X6_isWord⟩ (sg_pS hK hP [] rfl) rfl rfl hl.1 rfl (lv_room (Nat.le_of_ble_eq_true rfl)) dX6_top_15 ⟨Nat.zero_le _, Nat.zero_le _⟩) ?_
      refine ci_bne (P := (0 ≤ w.toInt ∧ w.toInt < 6)) (tgt := 25) hx hb dX6_top_18 rfl (fun h18 => by exfalso; omega) (fun h18 => ?_)
      refine lv_ldc2 (v := -1) hx hb hown (hts _ kl_X6_90) dX6_top_21 ?_
      exact W.lret hx hb hr (fun tZ ht hW => ⟨_, rfl, rfl, ht⟩) (fun q h => by cases h) dX6_top_24
set_option maxHeartbeats 4000000 in
set_option maxRecDepth 100000 in
theorem c_X6_top (l : Launch) (D : va_G) (cI cO : ClassId) (m : Nat) (me : Nat) (ml : Nat) (mw : Nat) (wa : Nat) (wb : Nat) (wf : Nat) (li : Nat) (ord : Nat) (ns : Nat) (ev : Int32) (y0 : Int64) (y1 : Int64) (ge : Nat → Int32) (gL : Nat → Int32) (gW : Nat → Int32) (ga : Nat → Int32) (gb : Nat → Int32) (gf : Nat → Int32) (lim : Nat → Int32) (ln : Nat → Nat) (wd : Nat → Nat → Nat) (e : Nat → Nat) (a : Nat) (b : Nat) (w : Nat) (hns : ns ≤ 8) (hMm : sgMm ln wd ns gL gW) (ho : 1 ≤ ord ∧ ord ≤ 3) (hE : sgE e) (hge : ∀ k, 1 ≤ k → k ≤ 3 → ge k = nI (e k)) (ha : a < 7) (hbb : b < 7) (hw : w < 6) : Met l yX6_top (.code yX6_top cX6_top 4 (some .long) :: sgT) ({ frames := 4, cells := 0, slots := 0, locals := 108 }) (sgWc D cI cO [.ref m, .int (nI a), .int (nI b), .int (nI w)] [(m, .inr (6, [.int (nI ord), .ref me, .int (nI ns), .ref ml, .ref mw, .int ev, .ref wa, .ref wb, .ref wf, .long y0, .long y1, .ref li])), (me, .inl (cI, 4, .inl ge)), (ml, .inl (cI, 9, .inl gL)), (mw, .inl (cI, 72, .inl gW)), (wa, .inl (cI, 72, .inl ga)), (wb, .inl (cI, 72, .inl gb)), (wf, .inl (cI, 72, .inl gf)), (li, .inl (cI, 240, .inl lim))]) (va_Ql (fun (r : Int64) (uZ : Nat × (Nat → Int32) × (Nat → Int32) × (Nat → Int32)) => r = lN (sgO (rwS ln wd ns) ord e a b w)) (fun uZ t => va_P D vwCl [(m, .inr (6, [.int (nI ord), .ref me, .int (nI ns), .ref ml, .ref mw, .int (nI uZ.1), .ref wa, .ref wb, .ref wf, .long (lN (sgO (rwS ln wd ns) ord e a b w)), .long (lN (sgU (rwS ln wd ns) ord e a b w)), .ref li])), (me, .inl (cI, 4, .inl ge)), (ml, .inl (cI, 9, .inl gL)), (mw, .inl (cI, 72, .inl gW)), (wa, .inl (cI, 72, .inl uZ.2.1)), (wb, .inl (cI, 72, .inl uZ.2.2.1)), (wf, .inl (cI, 72, .inl uZ.2.2.2)), (li, .inl (cI, 240, .inl lim))] t.heap) (xA [(m, .inr (6, [.int (nI ord), .ref me, .int (nI ns), .ref ml, .ref mw, .int ev, .ref wa, .ref wb, .ref wf, .long y0, .long y1, .ref li])), (me, .inl (cI, 4, .inl ge)), (ml, .inl (cI, 9, .inl gL)), (mw, .inl (cI, 72, .inl gW)), (wa, .inl (cI, 72, .inl ga)), (wb, .inl (cI, 72, .inl gb)), (wf, .inl (cI, 72, .inl gf)), (li, .inl (cI, 240, .inl lim))])) 0 0 (xA [(m, .inr (6, [.int (nI ord), .ref me, .int (nI ns), .ref ml, .ref mw, .int ev, .ref wa, .ref wb, .ref wf, .long y0, .long y1, .ref li])), (me, .inl (cI, 4, .inl ge)), (ml, .inl (cI, 9, .inl gL)), (mw, .inl (cI, 72, .inl gW)), (wa, .inl (cI, 72, .inl ga)), (wb, .inl (cI, 72, .inl gb)), (wf, .inl (cI, 72, .inl gf)), (li, .inl (cI, 240, .inl lim))]) := by
  refine Met.ofW (cc := cX6_top) (maxL := 4) (ret := (some .long)) (by decide) rfl ?_
  intro pZ eZ sZ mZ argsZ belowZ methZ cZ s₁ BZ hml hv
  obtain ⟨rfl, hP, hK, hD0⟩ := hv
  have hx := BZ.exec
  have hb := BZ.bytes
  have hr := BZ.returns
  have hts : ∀ wZ ∈ sgT, wZ.before ([.ref m, .int (nI a), .int (nI b), .int (nI w)] : List Value).toArray sZ = true := fun wZ h => atoms_spec (ws := (.code yX6_top cX6_top 4 (some .long) :: sgT)) BZ.pre wZ (List.mem_cons_of_mem _ h)
  have hown : sZ.vm.findClass RX6 = some mZ.cls := findClass_of_methodNamed BZ.named
  have hlocks := BZ.notSynchronized
  have hD : va_D (xA [(m, .inr (6, [.int (nI ord), .ref me, .int (nI ns), .ref ml, .ref mw, .int ev, .ref wa, .ref wb, .ref wf, .long y0, .long y1, .ref li])), (me, .inl (cI, 4, .inl ge)), (ml, .inl (cI, 9, .inl gL)), (mw, .inl (cI, 72, .inl gW)), (wa, .inl (cI, 72, .inl ga)), (wb, .inl (cI, 72, .inl gb)), (wf, .inl (cI, 72, .inl gf)), (li, .inl (cI, 240, .inl lim))]) [(m, .inr (6, [.int (nI ord), .ref me, .int (nI ns), .ref ml, .ref mw, .int ev, .ref wa, .ref wb, .ref wf, .long y0, .long y1, .ref li])), (me, .inl (cI, 4, .inl ge)), (ml, .inl (cI, 9, .inl gL)), (mw, .inl (cI, 72, .inl gW)), (wa, .inl (cI, 72, .inl ga)), (wb, .inl (cI, 72, .inl gb)), (wf, .inl (cI, 72, .inl gf)), (li, .inl (cI, 240, .inl lim))] := ⟨hD0.1, fun k q h => ⟨k, q.2, h⟩⟩
  generalize hAe : xA [(m, .inr (6, [.int (nI ord), .ref me, .int (nI ns), .ref ml, .ref mw, .int ev, .ref wa, .ref wb, .ref wf, .long y0, .long y1, .ref li])), (me, .inl (cI, 4, .inl ge)), (ml, .inl (cI, 9, .inl gL)), (mw, .inl (cI, 72, .inl gW)), (wa, .inl (cI, 72, .inl ga)), (wb, .inl (cI, 72, .inl gb)), (wf, .inl (cI, 72, .inl gf)), (li, .inl (cI, 240, .inl lim))] = A at hD ⊢
  have hS : va_S A sZ.heap sZ.heap [] := va_S.rf
  have hl := lv_entry ([.ref m, .int (nI a), .int (nI b), .int (nI w)]) (n := 4) (Nat.le_of_ble_eq_true rfl)
  rw [lg_entry_eq]
  generalize (lg_sl ([.ref m, .int (nI a), .int (nI b), .int (nI w)]) ++ List.replicate (4 - (lg_sl ([.ref m, .int (nI a), .int (nI b), .int (nI w)])).length) Slot.unset).toArray = ls at hl ⊢
  have hl : lv_has ls 4 [(0, .ref m), (1, .int (nI a)), (2, .int (nI b)), (3, .int (nI w))] := hl
  have haI := sg_n (n := a) (by omega)
  have hbI := sg_n (n := b) (by omega)
  have hwI := sg_n (n := w) (by omega)
  have hB := rwS_bd hns hMm
  have hP : va_P D vwCl [(m, .inr (6, [.int (nI ord), .ref me, .int (nI ns), .ref ml, .ref mw, .int ev, .ref wa, .ref wb, .ref wf, .long y0, .long y1, .ref li])), (me, .inl (cI, 4, .inl ge)), (ml, .inl (cI, 9, .inl gL)), (mw, .inl (cI, 72, .inl gW)), (wa, .inl (cI, 72, .inl ga)), (wb, .inl (cI, 72, .inl gb)), (wf, .inl (cI, 72, .inl gf)), (li, .inl (cI, 240, .inl lim))] sZ.heap := hP
  refine lv_iload_n hx hb dX6_top_0 rfl (lv_at hl 1 rfl) ?_
  refine sg_callRi (va_runS (As := [.int (nI a)]) (rest := []) ⟨hx, hb, hml, hown, hts⟩ (c_X6_isSymbol l D cI cO (nI a)) ⟨(sg_cB 1 hts mcX6_isSymbol ml_X6_53 in_X6 rfl rfl (by decide +kernel) ⟨Nat.le_of_ble_eq_true rfl, Nat.le_of_ble_eq_true rfl⟩), hts _ st_X6_isSymbol⟩ (sg_pS hK hP [] rfl) rfl rfl hl.1 rfl (lv_room (Nat.le_of_ble_eq_true rfl)) dX6_top_1 ⟨Nat.zero_le _, Nat.zero_le _⟩) ?_
  refine ci_beq (P := (0 ≤ (nI a).toInt ∧ (nI a).toInt < 7)) (tgt := 21) hx hb dX6_top_4 rfl (fun h4 => by exfalso; omega) (fun h4 => ?_)
  refine lv_iload_n hx hb dX6_top_7 rfl (lv_at hl 2 rfl) ?_
  refine sg_callRi (va_runS (As := [.int (nI b)]) (rest := []) ⟨hx, hb, hml, hown, hts⟩ (c_X6_isSymbol l D cI cO (nI b)) ⟨(sg_cB 1 hts mcX6_isSymbol ml_X6_53 in_X6 rfl rfl (by decide +kernel) ⟨Nat.le_of_ble_eq_true rfl, Nat.le_of_ble_eq_true rfl⟩), hts _ st_X6_isSymbol⟩ (sg_pS hK hP [] rfl) rfl rfl hl.1 rfl (lv_room (Nat.le_of_ble_eq_true rfl)) dX6_top_8 ⟨Nat.zero_le _, Nat.zero_le _⟩) ?_
  refine ci_beq (P := (0 ≤ (nI b).toInt ∧ (nI b).toInt < 7)) (tgt := 21) hx hb dX6_top_11 rfl (fun h11 => by exfalso; omega) (fun h11 => ?_)
  refine lv_iload_n hx hb dX6_top_14 rfl (lv_at hl 3 rfl) ?_
  refine sg_callRi (va_runS (As := [.int (nI w)]) (rest := []) ⟨hx, hb, hml, hown, hts⟩ (c_X6_isWord l D cI cO (nI w)) ⟨(sg_cB 1 hts mcX6_isWord ml_X6_87 in_X6 rfl rfl (by decide +kernel) ⟨Nat.le_of_ble_eq_true rfl, Nat.le_of_ble_eq_true rfl⟩), hts _ st_X6_isWord⟩ (sg_pS hK hP [] rfl) rfl rfl hl.1 rfl (lv_room (Nat.le_of_ble_eq_true rfl)) dX6_top_15 ⟨Nat.zero_le _, Nat.zero_le _⟩) ?_
  refine ci_bne (P := (0 ≤ (nI w).toInt ∧ (nI w).toInt < 6)) (tgt := 25) hx hb dX6_top_18 rfl (fun h18 => ?_) (fun h18 => by exfalso; omega)
  refine lv_aload_n hx hb dX6_top_25 rfl (lv_at hl 0 rfl) ?_
  refine sg_callWv (fun u26 => [(m, .inr (6, [.int (nI ord), .ref me, .int (nI ns), .ref ml, .ref mw, .int (nI u26.1), .ref wa, .ref wb, .ref wf, .long y0, .long y1, .ref li])), (me, .inl (cI, 4, .inl ge)), (ml, .inl (cI, 9, .inl gL)), (mw, .inl (cI, 72, .inl gW)), (wa, .inl (cI, 72, .inl u26.2.1)), (wb, .inl (cI, 72, .inl u26.2.2.1)), (wf, .inl (cI, 72, .inl u26.2.2.2)), (li, .inl (cI, 240, .inl lim))]) [(true, 0), (true, 1), (true, 2), (true, 3), (true, 4), (true, 5), (true, 6), (true, 7)] (va_runV (As := []) (rest := []) (C := RX6) ⟨hx, hb, hml, hown, hts⟩ (c_X6_look l D cI cO m me ml mw wa wb wf li ord ns ev y0 y1 ge gL gW ga gb gf lim ln wd (by omega) hMm) ⟨(sg_cB 0 hts mcX6_look ml_X6_56 in_X6 rfl rfl (by decide +kernel) ⟨Nat.le_of_ble_eq_true rfl, Nat.le_of_ble_eq_true rfl⟩), hts _ im_X6_look, hts _ se_X6_look⟩ (sg_wV (q0 := 0) hK hP hD [0, 1, 2, 3, 4, 5, 6, 7] (by decide) rfl rfl rfl rfl) rfl rfl hl.1 rfl (lv_room (Nat.le_of_ble_eq_true rfl)) dX6_top_26 ⟨Nat.zero_le _, Nat.zero_le _⟩) hP hD hS [0, 1, 2, 3, 4, 5, 6, 7] rfl (fun _ => rfl) (by decide) (fun _ => rfl) (fun u26 H locs hw26 hP hD hS => ?_)
  have hw26 : sgEv (rwS ln wd ns) u26.2.1 u26.2.2.1 u26.2.2.2 u26.1 := hw26
  refine lv_aload_n hx hb dX6_top_29 rfl (lv_at hl 0 rfl) ?_
  refine lv_iload_n hx hb dX6_top_30 rfl (lv_at hl 1 rfl) ?_
  refine lv_iload_n hx hb dX6_top_31 rfl (lv_at hl 2 rfl) ?_
  refine lv_iload_n hx hb dX6_top_32 rfl (lv_at hl 3 rfl) ?_
  refine sg_callWv (fun _ => [(m, .inr (6, [.int (nI ord), .ref me, .int (nI ns), .ref ml, .ref mw, .int (nI u26.1), .ref wa, .ref wb, .ref wf, .long (lN (sgO (rwS ln wd ns) ord e a b w)), .long (lN (sgU (rwS ln wd ns) ord e a b w)), .ref li])), (me, .inl (cI, 4, .inl ge)), (ml, .inl (cI, 9, .inl gL)), (mw, .inl (cI, 72, .inl gW)), (wa, .inl (cI, 72, .inl u26.2.1)), (wb, .inl (cI, 72, .inl u26.2.2.1)), (wf, .inl (cI, 72, .inl u26.2.2.2)), (li, .inl (cI, 240, .inl lim))]) [(true, 0), (true, 1), (true, 2), (true, 3), (true, 4), (true, 5), (true, 6), (true, 7)] (va_runV (As := [.int (nI a), .int (nI b), .int (nI w)]) (rest := []) (C := RX6) ⟨hx, hb, hml, hown, hts⟩ (c_X6_reckon l D cI cO m me ml mw wa wb wf li ord ns y0 y1 ge gL gW u26.2.1 u26.2.2.1 u26.2.2.2 lim u26.1 (rwS ln wd ns) e a b w hw26 hB (by omega) hE hge (by omega) (by omega) (by omega)) ⟨(sg_cB 3 hts mcX6_reckon ml_X6_92 in_X6 rfl rfl (by decide +kernel) ⟨Nat.le_of_ble_eq_true rfl, Nat.le_of_ble_eq_true rfl⟩), hts _ im_X6_reckon, hts _ se_X6_reckon⟩ (sg_wV (q0 := 0) hK hP hD [0, 1, 2, 3, 4, 5, 6, 7] (by decide) rfl rfl rfl rfl) rfl rfl hl.1 rfl (lv_room (Nat.le_of_ble_eq_true rfl)) dX6_top_33 ⟨Nat.zero_le _, Nat.zero_le _⟩) hP hD hS [0, 1, 2, 3, 4, 5, 6, 7] rfl (fun _ => rfl) (by decide) (fun _ => rfl) (fun u33 H locs hw33 hP hD hS => ?_)
  refine lv_aload_n hx hb dX6_top_36 rfl (lv_at hl 0 rfl) ?_
  refine va_get (D := D) (ci := 6) (v := .long (lN (sgO (rwS ln wd ns) ord e a b w))) (C := RX6) (T := TX6) (N := 12) hx hb hts hinX6 hown hK.1 hP 0 rfl rfl 9 (by decide) (hts _ fl_X6_76) (fun _ h9 => h9) rfl dX6_top_37 ?_
  exact W.lret hx hb hr (fun tZ ht hW => ⟨⟨_, u26, rfl, rfl, by show va_P D vwCl _ tZ.heap; rw [ht]; exact hP⟩, hS.F ht⟩) hS.2.2 dX6_top_40
set_option maxHeartbeats 4000000 in
set_option maxRecDepth 100000 in
theorem r_bottom_bad (l : Launch) (D : va_G) (cI cO : ClassId) (m : Nat) (me : Nat) (ml : Nat) (mw : Nat) (wa : Nat) (wb : Nat) (wf : Nat) (li : Nat) (ord : Nat) (ns : Nat) (ev : Int32) (y0 : Int64) (y1 : Int64) (ge : Nat → Int32) (gL : Nat → Int32) (gW : Nat → Int32) (ga : Nat → Int32) (gb : Nat → Int32) (gf : Nat → Int32) (lim : Nat → Int32) (a : Int32) (b : Int32) (w : Int32) (hn : ¬ ((0 ≤ a.toInt ∧ a.toInt < 7) ∧ (0 ≤ b.toInt ∧ b.toInt < 7) ∧ 0 ≤ w.toInt ∧ w.toInt < 6)) : Met l yX6_bottom (.code yX6_bottom cX6_bottom 4 (some .long) :: sgT) ({ frames := 4, cells := 0, slots := 0, locals := 108 }) (sgPc D cI cO [.ref m, .int a, .int b, .int w] [(m, .inr (6, [.int (nI ord), .ref me, .int (nI ns), .ref ml, .ref mw, .int ev, .ref wa, .ref wb, .ref wf, .long y0, .long y1, .ref li])), (me, .inl (cI, 4, .inl ge)), (ml, .inl (cI, 9, .inl gL)), (mw, .inl (cI, 72, .inl gW)), (wa, .inl (cI, 72, .inl ga)), (wb, .inl (cI, 72, .inl gb)), (wf, .inl (cI, 72, .inl gf)), (li, .inl (cI, 240, .inl lim))]) (vp_Sl (fun r => r = -1)) 0 0 (fun _ => False) := by
  refine Met.ofW (cc := cX6_bottom) (maxL := 4) (ret := (some .long)) (by decide) rfl ?_
  intro pZ eZ sZ mZ argsZ belowZ methZ cZ s₁ BZ hml hv
  obtain ⟨rfl, hP, hK⟩ := hv
  have hx := BZ.exec
  have hb := BZ.bytes
  have hr := BZ.returns
  have hts : ∀ wZ ∈ sgT, wZ.before ([.ref m, .int a, .int b, .int w] : List Value).toArray sZ = true := fun wZ h => atoms_spec (ws := (.code yX6_bottom cX6_bottom 4 (some .long) :: sgT)) BZ.pre wZ (List.mem_cons_of_mem _ h)
  have hown : sZ.vm.findClass RX6 = some mZ.cls := findClass_of_methodNamed BZ.named
  have hlocks := BZ.notSynchronized
  have hl := lv_entry ([.ref m, .int a, .int b, .int w]) (n := 4) (Nat.le_of_ble_eq_true rfl)
  rw [lg_entry_eq]
  generalize (lg_sl ([.ref m, .int a, .int b, .int w]) ++ List.replicate (4 - (lg_sl ([.ref m, .int a, .int b, .int w])).length) Slot.unset).toArray = ls at hl ⊢
  have hl : lv_has ls 4 [(0, .ref m), (1, .int a), (2, .int b), (3, .int w)] := hl
  refine lv_iload_n hx hb dX6_bottom_0 rfl (lv_at hl 1 rfl) ?_
  refine sg_callRi (va_runS (As := [.int a]) (rest := []) ⟨hx, hb, hml, hown, hts⟩ (c_X6_isSymbol l D cI cO a) ⟨(sg_cB 1 hts mcX6_isSymbol ml_X6_53 in_X6 rfl rfl (by decide +kernel) ⟨Nat.le_of_ble_eq_true rfl, Nat.le_of_ble_eq_true rfl⟩), hts _ st_X6_isSymbol⟩ (sg_pS hK hP [] rfl) rfl rfl hl.1 rfl (lv_room (Nat.le_of_ble_eq_true rfl)) dX6_bottom_1 ⟨Nat.zero_le _, Nat.zero_le _⟩) ?_
  refine ci_beq (P := (0 ≤ a.toInt ∧ a.toInt < 7)) (tgt := 21) hx hb dX6_bottom_4 rfl (fun h4 => ?_) (fun h4 => ?_)
  · refine lv_ldc2 (v := -1) hx hb hown (hts _ kl_X6_90) dX6_bottom_21 ?_
    exact W.lret hx hb hr (fun tZ ht hW => ⟨_, rfl, rfl, ht⟩) (fun q h => by cases h) dX6_bottom_24
  · refine lv_iload_n hx hb dX6_bottom_7 rfl (lv_at hl 2 rfl) ?_
    refine sg_callRi (va_runS (As := [.int b]) (rest := []) ⟨hx, hb, hml, hown, hts⟩ (c_X6_isSymbol l D cI cO b) ⟨(sg_cB 1 hts mcX6_isSymbol ml_X6_53 in_X6 rfl rfl (by decide +kernel) ⟨Nat.le_of_ble_eq_true rfl, Nat.le_of_ble_eq_true rfl⟩), hts _ st_X6_isSymbol⟩ (sg_pS hK hP [] rfl) rfl rfl hl.1 rfl (lv_room (Nat.le_of_ble_eq_true rfl)) dX6_bottom_8 ⟨Nat.zero_le _, Nat.zero_le _⟩) ?_
    refine ci_beq (P := (0 ≤ b.toInt ∧ b.toInt < 7)) (tgt := 21) hx hb dX6_bottom_11 rfl (fun h11 => ?_) (fun h11 => ?_)
    · refine lv_ldc2 (v := -1) hx hb hown (hts _ kl_X6_90) dX6_bottom_21 ?_
      exact W.lret hx hb hr (fun tZ ht hW => ⟨_, rfl, rfl, ht⟩) (fun q h => by cases h) dX6_bottom_24
    · refine lv_iload_n hx hb dX6_bottom_14 rfl (lv_at hl 3 rfl) ?_
      refine sg_callRi (va_runS (As := [.int w]) (rest := []) ⟨hx, hb, hml, hown, hts⟩ (c_X6_isWord l D cI cO w) ⟨(sg_cB 1 hts mcX6_isWord ml_X6_87 in_X6 rfl rfl (by decide +kernel) ⟨Nat.le_of_ble_eq_true rfl, Nat.le_of_ble_eq_true rfl⟩), hts _ st_X6_isWord⟩ (sg_pS hK hP [] rfl) rfl rfl hl.1 rfl (lv_room (Nat.le_of_ble_eq_true rfl)) dX6_bottom_15 ⟨Nat.zero_le _, Nat.zero_le _⟩) ?_
      refine ci_bne (P := (0 ≤ w.toInt ∧ w.toInt < 6)) (tgt := 25) hx hb dX6_bottom_18 rfl (fun h18 => by exfalso; omega) (fun h18 => ?_)
      refine lv_ldc2 (v := -1) hx hb hown (hts _ kl_X6_90) dX6_bottom_21 ?_
      exact W.lret hx hb hr (fun tZ ht hW => ⟨_, rfl, rfl, ht⟩) (fun q h => by cases h) dX6_bottom_24
set_option maxHeartbeats 4000000 in
set_option maxRecDepth 100000 in
theorem c_X6_bottom (l : Launch) (D : va_G) (cI cO : ClassId) (m : Nat) (me : Nat) (ml : Nat) (mw : Nat) (wa : Nat) (wb : Nat) (wf : Nat) (li : Nat) (ord : Nat) (ns : Nat) (ev : Int32) (y0 : Int64) (y1 : Int64) (ge : Nat → Int32) (gL : Nat → Int32) (gW : Nat → Int32) (ga : Nat → Int32) (gb : Nat → Int32) (gf : Nat → Int32) (lim : Nat → Int32) (ln : Nat → Nat) (wd : Nat → Nat → Nat) (e : Nat → Nat) (a : Nat) (b : Nat) (w : Nat) (hns : ns ≤ 8) (hMm : sgMm ln wd ns gL gW) (ho : 1 ≤ ord ∧ ord ≤ 3) (hE : sgE e) (hge : ∀ k, 1 ≤ k → k ≤ 3 → ge k = nI (e k)) (ha : a < 7) (hbb : b < 7) (hw : w < 6) : Met l yX6_bottom (.code yX6_bottom cX6_bottom 4 (some .long) :: sgT) ({ frames := 4, cells := 0, slots := 0, locals := 108 }) (sgWc D cI cO [.ref m, .int (nI a), .int (nI b), .int (nI w)] [(m, .inr (6, [.int (nI ord), .ref me, .int (nI ns), .ref ml, .ref mw, .int ev, .ref wa, .ref wb, .ref wf, .long y0, .long y1, .ref li])), (me, .inl (cI, 4, .inl ge)), (ml, .inl (cI, 9, .inl gL)), (mw, .inl (cI, 72, .inl gW)), (wa, .inl (cI, 72, .inl ga)), (wb, .inl (cI, 72, .inl gb)), (wf, .inl (cI, 72, .inl gf)), (li, .inl (cI, 240, .inl lim))]) (va_Ql (fun (r : Int64) (uZ : Nat × (Nat → Int32) × (Nat → Int32) × (Nat → Int32)) => r = lN (sgU (rwS ln wd ns) ord e a b w)) (fun uZ t => va_P D vwCl [(m, .inr (6, [.int (nI ord), .ref me, .int (nI ns), .ref ml, .ref mw, .int (nI uZ.1), .ref wa, .ref wb, .ref wf, .long (lN (sgO (rwS ln wd ns) ord e a b w)), .long (lN (sgU (rwS ln wd ns) ord e a b w)), .ref li])), (me, .inl (cI, 4, .inl ge)), (ml, .inl (cI, 9, .inl gL)), (mw, .inl (cI, 72, .inl gW)), (wa, .inl (cI, 72, .inl uZ.2.1)), (wb, .inl (cI, 72, .inl uZ.2.2.1)), (wf, .inl (cI, 72, .inl uZ.2.2.2)), (li, .inl (cI, 240, .inl lim))] t.heap) (xA [(m, .inr (6, [.int (nI ord), .ref me, .int (nI ns), .ref ml, .ref mw, .int ev, .ref wa, .ref wb, .ref wf, .long y0, .long y1, .ref li])), (me, .inl (cI, 4, .inl ge)), (ml, .inl (cI, 9, .inl gL)), (mw, .inl (cI, 72, .inl gW)), (wa, .inl (cI, 72, .inl ga)), (wb, .inl (cI, 72, .inl gb)), (wf, .inl (cI, 72, .inl gf)), (li, .inl (cI, 240, .inl lim))])) 0 0 (xA [(m, .inr (6, [.int (nI ord), .ref me, .int (nI ns), .ref ml, .ref mw, .int ev, .ref wa, .ref wb, .ref wf, .long y0, .long y1, .ref li])), (me, .inl (cI, 4, .inl ge)), (ml, .inl (cI, 9, .inl gL)), (mw, .inl (cI, 72, .inl gW)), (wa, .inl (cI, 72, .inl ga)), (wb, .inl (cI, 72, .inl gb)), (wf, .inl (cI, 72, .inl gf)), (li, .inl (cI, 240, .inl lim))]) := by
  refine Met.ofW (cc := cX6_bottom) (maxL := 4) (ret := (some .long)) (by decide) rfl ?_
  intro pZ eZ sZ mZ argsZ belowZ methZ cZ s₁ BZ hml hv
  obtain ⟨rfl, hP, hK, hD0⟩ := hv
  have hx := BZ.exec
  have hb := BZ.bytes
  have hr := BZ.returns
  have hts : ∀ wZ ∈ sgT, wZ.before ([.ref m, .int (nI a), .int (nI b), .int (nI w)] : List Value).toArray sZ = true := fun wZ h => atoms_spec (ws := (.code yX6_bottom cX6_bottom 4 (some .long) :: sgT)) BZ.pre wZ (List.mem_cons_of_mem _ h)
  have hown : sZ.vm.findClass RX6 = some mZ.cls := findClass_of_methodNamed BZ.named
  have hlocks := BZ.notSynchronized
  have hD : va_D (xA [(m, .inr (6, [.int (nI ord), .ref me, .int (nI ns), .ref ml, .ref mw, .int ev, .ref wa, .ref wb, .ref wf, .long y0, .long y1, .ref li])), (me, .inl (cI, 4, .inl ge)), (ml, .inl (cI, 9, .inl gL)), (mw, .inl (cI, 72, .inl gW)), (wa, .inl (cI, 72, .inl ga)), (wb, .inl (cI, 72, .inl gb)), (wf, .inl (cI, 72, .inl gf)), (li, .inl (cI, 240, .inl lim))]) [(m, .inr (6, [.int (nI ord), .ref me, .int (nI ns), .ref ml, .ref mw, .int ev, .ref wa, .ref wb, .ref wf, .long y0, .long y1, .ref li])), (me, .inl (cI, 4, .inl ge)), (ml, .inl (cI, 9, .inl gL)), (mw, .inl (cI, 72, .inl gW)), (wa, .inl (cI, 72, .inl ga)), (wb, .inl (cI, 72, .inl gb)), (wf, .inl (cI, 72, .inl gf)), (li, .inl (cI, 240, .inl lim))] := ⟨hD0.1, fun k q h => ⟨k, q.2, h⟩⟩
  generalize hAe : xA [(m, .inr (6, [.int (nI ord), .ref me, .int (nI ns), .ref ml, .ref mw, .int ev, .ref wa, .ref wb, .ref wf, .long y0, .long y1, .ref li])), (me, .inl (cI, 4, .inl ge)), (ml, .inl (cI, 9, .inl gL)), (mw, .inl (cI, 72, .inl gW)), (wa, .inl (cI, 72, .inl ga)), (wb, .inl (cI, 72, .inl gb)), (wf, .inl (cI, 72, .inl gf)), (li, .inl (cI, 240, .inl lim))] = A at hD ⊢
  have hS : va_S A sZ.heap sZ.heap [] := va_S.rf
  have hl := lv_entry ([.ref m, .int (nI a), .int (nI b), .int (nI w)]) (n := 4) (Nat.le_of_ble_eq_true rfl)
  rw [lg_entry_eq]
  generalize (lg_sl ([.ref m, .int (nI a), .int (nI b), .int (nI w)]) ++ List.replicate (4 - (lg_sl ([.ref m, .int (nI a), .int (nI b), .int (nI w)])).length) Slot.unset).toArray = ls at hl ⊢
  have hl : lv_has ls 4 [(0, .ref m), (1, .int (nI a)), (2, .int (nI b)), (3, .int (nI w))] := hl
  have haI := sg_n (n := a) (by omega)
  have hbI := sg_n (n := b) (by omega)
  have hwI := sg_n (n := w) (by omega)
  have hB := rwS_bd hns hMm
  have hP : va_P D vwCl [(m, .inr (6, [.int (nI ord), .ref me, .int (nI ns), .ref ml, .ref mw, .int ev, .ref wa, .ref wb, .ref wf, .long y0, .long y1, .ref li])), (me, .inl (cI, 4, .inl ge)), (ml, .inl (cI, 9, .inl gL)), (mw, .inl (cI, 72, .inl gW)), (wa, .inl (cI, 72, .inl ga)), (wb, .inl (cI, 72, .inl gb)), (wf, .inl (cI, 72, .inl gf)), (li, .inl (cI, 240, .inl lim))] sZ.heap := hP
  refine lv_iload_n hx hb dX6_bottom_0 rfl (lv_at hl 1 rfl) ?_
  refine sg_callRi (va_runS (As := [.int (nI a)]) (rest := []) ⟨hx, hb, hml, hown, hts⟩ (c_X6_isSymbol l D cI cO (nI a)) ⟨(sg_cB 1 hts mcX6_isSymbol ml_X6_53 in_X6 rfl rfl (by decide +kernel) ⟨Nat.le_of_ble_eq_true rfl, Nat.le_of_ble_eq_true rfl⟩), hts _ st_X6_isSymbol⟩ (sg_pS hK hP [] rfl) rfl rfl hl.1 rfl (lv_room (Nat.le_of_ble_eq_true rfl)) dX6_bottom_1 ⟨Nat.zero_le _, Nat.zero_le _⟩) ?_
  refine ci_beq (P := (0 ≤ (nI a).toInt ∧ (nI a).toInt < 7)) (tgt := 21) hx hb dX6_bottom_4 rfl (fun h4 => by exfalso; omega) (fun h4 => ?_)
  refine lv_iload_n hx hb dX6_bottom_7 rfl (lv_at hl 2 rfl) ?_
  refine sg_callRi (va_runS (As := [.int (nI b)]) (rest := []) ⟨hx, hb, hml, hown, hts⟩ (c_X6_isSymbol l D cI cO (nI b)) ⟨(sg_cB 1 hts mcX6_isSymbol ml_X6_53 in_X6 rfl rfl (by decide +kernel) ⟨Nat.le_of_ble_eq_true rfl, Nat.le_of_ble_eq_true rfl⟩), hts _ st_X6_isSymbol⟩ (sg_pS hK hP [] rfl) rfl rfl hl.1 rfl (lv_room (Nat.le_of_ble_eq_true rfl)) dX6_bottom_8 ⟨Nat.zero_le _, Nat.zero_le _⟩) ?_
  refine ci_beq (P := (0 ≤ (nI b).toInt ∧ (nI b).toInt < 7)) (tgt := 21) hx hb dX6_bottom_11 rfl (fun h11 => by exfalso; omega) (fun h11 => ?_)
  refine lv_iload_n hx hb dX6_bottom_14 rfl (lv_at hl 3 rfl) ?_
  refine sg_callRi (va_runS (As := [.int (nI w)]) (rest := []) ⟨hx, hb, hml, hown, hts⟩ (c_X6_isWord l D cI cO (nI w)) ⟨(sg_cB 1 hts mcX6_isWord ml_X6_87 in_X6 rfl rfl (by decide +kernel) ⟨Nat.le_of_ble_eq_true rfl, Nat.le_of_ble_eq_true rfl⟩), hts _ st_X6_isWord⟩ (sg_pS hK hP [] rfl) rfl rfl hl.1 rfl (lv_room (Nat.le_of_ble_eq_true rfl)) dX6_bottom_15 ⟨Nat.zero_le _, Nat.zero_le _⟩) ?_
  refine ci_bne (P := (0 ≤ (nI w).toInt ∧ (nI w).toInt < 6)) (tgt := 25) hx hb dX6_bottom_18 rfl (fun h18 => ?_) (fun h18 => by exfalso; omega)
  refine lv_aload_n hx hb dX6_bottom_25 rfl (lv_at hl 0 rfl) ?_
  refine sg_callWv (fun u26 => [(m, .inr (6, [.int (nI ord), .ref me, .int (nI ns), .ref ml, .ref mw, .int (nI u26.1), .ref wa, .ref wb, .ref wf, .long y0, .long y1, .ref li])), (me, .inl (cI, 4, .inl ge)), (ml, .inl (cI, 9, .inl gL)), (mw, .inl (cI, 72, .inl gW)), (wa, .inl (cI, 72, .inl u26.2.1)), (wb, .inl (cI, 72, .inl u26.2.2.1)), (wf, .inl (cI, 72, .inl u26.2.2.2)), (li, .inl (cI, 240, .inl lim))]) [(true, 0), (true, 1), (true, 2), (true, 3), (true, 4), (true, 5), (true, 6), (true, 7)] (va_runV (As := []) (rest := []) (C := RX6) ⟨hx, hb, hml, hown, hts⟩ (c_X6_look l D cI cO m me ml mw wa wb wf li ord ns ev y0 y1 ge gL gW ga gb gf lim ln wd (by omega) hMm) ⟨(sg_cB 0 hts mcX6_look ml_X6_56 in_X6 rfl rfl (by decide +kernel) ⟨Nat.le_of_ble_eq_true rfl, Nat.le_of_ble_eq_true rfl⟩), hts _ im_X6_look, hts _ se_X6_look⟩ (sg_wV (q0 := 0) hK hP hD [0, 1, 2, 3, 4, 5, 6, 7] (by decide) rfl rfl rfl rfl) rfl rfl hl.1 rfl (lv_room (Nat.le_of_ble_eq_true rfl)) dX6_bottom_26 ⟨Nat.zero_le _, Nat.zero_le _⟩) hP hD hS [0, 1, 2, 3, 4, 5, 6, 7] rfl (fun _ => rfl) (by decide) (fun _ => rfl) (fun u26 H locs hw26 hP hD hS => ?_)
  have hw26 : sgEv (rwS ln wd ns) u26.2.1 u26.2.2.1 u26.2.2.2 u26.1 := hw26
  refine lv_aload_n hx hb dX6_bottom_29 rfl (lv_at hl 0 rfl) ?_
  refine lv_iload_n hx hb dX6_bottom_30 rfl (lv_at hl 1 rfl) ?_
  refine lv_iload_n hx hb dX6_bottom_31 rfl (lv_at hl 2 rfl) ?_
  refine lv_iload_n hx hb dX6_bottom_32 rfl (lv_at hl 3 rfl) ?_
  refine sg_callWv (fun _ => [(m, .inr (6, [.int (nI ord), .ref me, .int (nI ns), .ref ml, .ref mw, .int (nI u26.1), .ref wa, .ref wb, .ref wf, .long (lN (sgO (rwS ln wd ns) ord e a b w)), .long (lN (sgU (rwS ln wd ns) ord e a b w)), .ref li])), (me, .inl (cI, 4, .inl ge)), (ml, .inl (cI, 9, .inl gL)), (mw, .inl (cI, 72, .inl gW)), (wa, .inl (cI, 72, .inl u26.2.1)), (wb, .inl (cI, 72, .inl u26.2.2.1)), (wf, .inl (cI, 72, .inl u26.2.2.2)), (li, .inl (cI, 240, .inl lim))]) [(true, 0), (true, 1), (true, 2), (true, 3), (true, 4), (true, 5), (true, 6), (true, 7)] (va_runV (As := [.int (nI a), .int (nI b), .int (nI w)]) (rest := []) (C := RX6) ⟨hx, hb, hml, hown, hts⟩ (c_X6_reckon l D cI cO m me ml mw wa wb wf li ord ns y0 y1 ge gL gW u26.2.1 u26.2.2.1 u26.2.2.2 lim u26.1 (rwS ln wd ns) e a b w hw26 hB (by omega) hE hge (by omega) (by omega) (by omega)) ⟨(sg_cB 3 hts mcX6_reckon ml_X6_92 in_X6 rfl rfl (by decide +kernel) ⟨Nat.le_of_ble_eq_true rfl, Nat.le_of_ble_eq_true rfl⟩), hts _ im_X6_reckon, hts _ se_X6_reckon⟩ (sg_wV (q0 := 0) hK hP hD [0, 1, 2, 3, 4, 5, 6, 7] (by decide) rfl rfl rfl rfl) rfl rfl hl.1 rfl (lv_room (Nat.le_of_ble_eq_true rfl)) dX6_bottom_33 ⟨Nat.zero_le _, Nat.zero_le _⟩) hP hD hS [0, 1, 2, 3, 4, 5, 6, 7] rfl (fun _ => rfl) (by decide) (fun _ => rfl) (fun u33 H locs hw33 hP hD hS => ?_)
  refine lv_aload_n hx hb dX6_bottom_36 rfl (lv_at hl 0 rfl) ?_
  refine va_get (D := D) (ci := 6) (v := .long (lN (sgU (rwS ln wd ns) ord e a b w))) (C := RX6) (T := TX6) (N := 12) hx hb hts hinX6 hown hK.1 hP 0 rfl rfl 10 (by decide) (hts _ fl_X6_82) (fun _ h9 => h9) rfl dX6_bottom_37 ?_
  exact W.lret hx hb hr (fun tZ ht hW => ⟨⟨_, u26, rfl, rfl, by show va_P D vwCl _ tZ.heap; rw [ht]; exact hP⟩, hS.F ht⟩) hS.2.2 dX6_bottom_40
set_option maxHeartbeats 4000000 in
set_option maxRecDepth 100000 in
theorem r_likeliest_bad (l : Launch) (D : va_G) (cI cO : ClassId) (m : Nat) (me : Nat) (ml : Nat) (mw : Nat) (wa : Nat) (wb : Nat) (wf : Nat) (li : Nat) (ord : Nat) (ns : Nat) (ev : Int32) (y0 : Int64) (y1 : Int64) (ge : Nat → Int32) (gL : Nat → Int32) (gW : Nat → Int32) (ga : Nat → Int32) (gb : Nat → Int32) (gf : Nat → Int32) (lim : Nat → Int32) (a : Int32) (b : Int32) (hn : ¬ ((0 ≤ a.toInt ∧ a.toInt < 7) ∧ 0 ≤ b.toInt ∧ b.toInt < 7)) : Met l yX6_likeliest (.code yX6_likeliest cX6_likeliest 9 (some .int) :: sgT) ({ frames := 4, cells := 0, slots := 0, locals := 108 }) (sgPc D cI cO [.ref m, .int a, .int b] [(m, .inr (6, [.int (nI ord), .ref me, .int (nI ns), .ref ml, .ref mw, .int ev, .ref wa, .ref wb, .ref wf, .long y0, .long y1, .ref li])), (me, .inl (cI, 4, .inl ge)), (ml, .inl (cI, 9, .inl gL)), (mw, .inl (cI, 72, .inl gW)), (wa, .inl (cI, 72, .inl ga)), (wb, .inl (cI, 72, .inl gb)), (wf, .inl (cI, 72, .inl gf)), (li, .inl (cI, 240, .inl lim))]) (vp_Si (fun r => r = -1)) 0 0 (fun _ => False) := by
  refine Met.ofW (cc := cX6_likeliest) (maxL := 9) (ret := (some .int)) (by decide) rfl ?_
  intro pZ eZ sZ mZ argsZ belowZ methZ cZ s₁ BZ hml hv
  obtain ⟨rfl, hP, hK⟩ := hv
  have hx := BZ.exec
  have hb := BZ.bytes
  have hr := BZ.returns
  have hts : ∀ wZ ∈ sgT, wZ.before ([.ref m, .int a, .int b] : List Value).toArray sZ = true := fun wZ h => atoms_spec (ws := (.code yX6_likeliest cX6_likeliest 9 (some .int) :: sgT)) BZ.pre wZ (List.mem_cons_of_mem _ h)
  have hown : sZ.vm.findClass RX6 = some mZ.cls := findClass_of_methodNamed BZ.named
  have hlocks := BZ.notSynchronized
  have hl := lv_entry ([.ref m, .int a, .int b]) (n := 9) (Nat.le_of_ble_eq_true rfl)
  rw [lg_entry_eq]
  generalize (lg_sl ([.ref m, .int a, .int b]) ++ List.replicate (9 - (lg_sl ([.ref m, .int a, .int b])).length) Slot.unset).toArray = ls at hl ⊢
  have hl : lv_has ls 9 [(0, .ref m), (1, .int a), (2, .int b)] := hl
  refine lv_iload_n hx hb dX6_likeliest_0 rfl (lv_at hl 1 rfl) ?_
  refine sg_callRi (va_runS (As := [.int a]) (rest := []) ⟨hx, hb, hml, hown, hts⟩ (c_X6_isSymbol l D cI cO a) ⟨(sg_cB 1 hts mcX6_isSymbol ml_X6_53 in_X6 rfl rfl (by decide +kernel) ⟨Nat.le_of_ble_eq_true rfl, Nat.le_of_ble_eq_true rfl⟩), hts _ st_X6_isSymbol⟩ (sg_pS hK hP [] rfl) rfl rfl hl.1 rfl (lv_room (Nat.le_of_ble_eq_true rfl)) dX6_likeliest_1 ⟨Nat.zero_le _, Nat.zero_le _⟩) ?_
  refine ci_beq (P := (0 ≤ a.toInt ∧ a.toInt < 7)) (tgt := 14) hx hb dX6_likeliest_4 rfl (fun h4 => ?_) (fun h4 => ?_)
  · refine lv_iconst (v := -1) hx hb dX6_likeliest_14 (by decide) ?_
    exact W.iret hx hb hr (fun tZ ht hW => ⟨_, rfl, rfl, ht⟩) (fun q h => by cases h) dX6_likeliest_15
  · refine lv_iload_n hx hb dX6_likeliest_7 rfl (lv_at hl 2 rfl) ?_
    refine sg_callRi (va_runS (As := [.int b]) (rest := []) ⟨hx, hb, hml, hown, hts⟩ (c_X6_isSymbol l D cI cO b) ⟨(sg_cB 1 hts mcX6_isSymbol ml_X6_53 in_X6 rfl rfl (by decide +kernel) ⟨Nat.le_of_ble_eq_true rfl, Nat.le_of_ble_eq_true rfl⟩), hts _ st_X6_isSymbol⟩ (sg_pS hK hP [] rfl) rfl rfl hl.1 rfl (lv_room (Nat.le_of_ble_eq_true rfl)) dX6_likeliest_8 ⟨Nat.zero_le _, Nat.zero_le _⟩) ?_
    refine ci_bne (P := (0 ≤ b.toInt ∧ b.toInt < 7)) (tgt := 16) hx hb dX6_likeliest_11 rfl (fun h11 => by exfalso; omega) (fun h11 => ?_)
    refine lv_iconst (v := -1) hx hb dX6_likeliest_14 (by decide) ?_
    exact W.iret hx hb hr (fun tZ ht hW => ⟨_, rfl, rfl, ht⟩) (fun q h => by cases h) dX6_likeliest_15
set_option maxHeartbeats 4000000 in
set_option maxRecDepth 100000 in
theorem c_X6_likeliest (l : Launch) (D : va_G) (cI cO : ClassId) (m : Nat) (me : Nat) (ml : Nat) (mw : Nat) (wa : Nat) (wb : Nat) (wf : Nat) (li : Nat) (ord : Nat) (ns : Nat) (ev : Int32) (y0 : Int64) (y1 : Int64) (ge : Nat → Int32) (gL : Nat → Int32) (gW : Nat → Int32) (ga : Nat → Int32) (gb : Nat → Int32) (gf : Nat → Int32) (lim : Nat → Int32) (ln : Nat → Nat) (wd : Nat → Nat → Nat) (e : Nat → Nat) (a : Nat) (b : Nat) (hns : ns ≤ 8) (hMm : sgMm ln wd ns gL gW) (ho : 1 ≤ ord ∧ ord ≤ 3) (hE : sgE e) (hge : ∀ k, 1 ≤ k → k ≤ 3 → ge k = nI (e k)) (ha : a < 7) (hbb : b < 7) : Met l yX6_likeliest (.code yX6_likeliest cX6_likeliest 9 (some .int) :: sgT) ({ frames := 4, cells := 0, slots := 0, locals := 108 }) (sgWc D cI cO [.ref m, .int (nI a), .int (nI b)] [(m, .inr (6, [.int (nI ord), .ref me, .int (nI ns), .ref ml, .ref mw, .int ev, .ref wa, .ref wb, .ref wf, .long y0, .long y1, .ref li])), (me, .inl (cI, 4, .inl ge)), (ml, .inl (cI, 9, .inl gL)), (mw, .inl (cI, 72, .inl gW)), (wa, .inl (cI, 72, .inl ga)), (wb, .inl (cI, 72, .inl gb)), (wf, .inl (cI, 72, .inl gf)), (li, .inl (cI, 240, .inl lim))]) (va_Qi (fun (r : Int32) (uZ : (Nat × (Nat → Int32) × (Nat → Int32) × (Nat → Int32)) × Int64 × Int64) => r = nI (sgLk (fun w => sgO (rwS ln wd ns) ord e a b w) (fun w => sgU (rwS ln wd ns) ord e a b w) 5 1 0 (sgO (rwS ln wd ns) ord e a b 0) (sgU (rwS ln wd ns) ord e a b 0))) (fun uZ t => va_P D vwCl [(m, .inr (6, [.int (nI ord), .ref me, .int (nI ns), .ref ml, .ref mw, .int (nI uZ.1.1), .ref wa, .ref wb, .ref wf, .long uZ.2.1, .long uZ.2.2, .ref li])), (me, .inl (cI, 4, .inl ge)), (ml, .inl (cI, 9, .inl gL)), (mw, .inl (cI, 72, .inl gW)), (wa, .inl (cI, 72, .inl uZ.1.2.1)), (wb, .inl (cI, 72, .inl uZ.1.2.2.1)), (wf, .inl (cI, 72, .inl uZ.1.2.2.2)), (li, .inl (cI, 240, .inl lim))] t.heap) (xA [(m, .inr (6, [.int (nI ord), .ref me, .int (nI ns), .ref ml, .ref mw, .int ev, .ref wa, .ref wb, .ref wf, .long y0, .long y1, .ref li])), (me, .inl (cI, 4, .inl ge)), (ml, .inl (cI, 9, .inl gL)), (mw, .inl (cI, 72, .inl gW)), (wa, .inl (cI, 72, .inl ga)), (wb, .inl (cI, 72, .inl gb)), (wf, .inl (cI, 72, .inl gf)), (li, .inl (cI, 240, .inl lim))])) 0 0 (xA [(m, .inr (6, [.int (nI ord), .ref me, .int (nI ns), .ref ml, .ref mw, .int ev, .ref wa, .ref wb, .ref wf, .long y0, .long y1, .ref li])), (me, .inl (cI, 4, .inl ge)), (ml, .inl (cI, 9, .inl gL)), (mw, .inl (cI, 72, .inl gW)), (wa, .inl (cI, 72, .inl ga)), (wb, .inl (cI, 72, .inl gb)), (wf, .inl (cI, 72, .inl gf)), (li, .inl (cI, 240, .inl lim))]) := by
  refine Met.ofW (cc := cX6_likeliest) (maxL := 9) (ret := (some .int)) (by decide) rfl ?_
  intro pZ eZ sZ mZ argsZ belowZ methZ cZ s₁ BZ hml hv
  obtain ⟨rfl, hP, hK, hD0⟩ := hv
  have hx := BZ.exec
  have hb := BZ.bytes
  have hr := BZ.returns
  have hts : ∀ wZ ∈ sgT, wZ.before ([.ref m, .int (nI a), .int (nI b)] : List Value).toArray sZ = true := fun wZ h => atoms_spec (ws := (.code yX6_likeliest cX6_likeliest 9 (some .int) :: sgT)) BZ.pre wZ (List.mem_cons_of_mem _ h)
  have hown : sZ.vm.findClass RX6 = some mZ.cls := findClass_of_methodNamed BZ.named
  have hlocks := BZ.notSynchronized
  have hD : va_D (xA [(m, .inr (6, [.int (nI ord), .ref me, .int (nI ns), .ref ml, .ref mw, .int ev, .ref wa, .ref wb, .ref wf, .long y0, .long y1, .ref li])), (me, .inl (cI, 4, .inl ge)), (ml, .inl (cI, 9, .inl gL)), (mw, .inl (cI, 72, .inl gW)), (wa, .inl (cI, 72, .inl ga)), (wb, .inl (cI, 72, .inl gb)), (wf, .inl (cI, 72, .inl gf)), (li, .inl (cI, 240, .inl lim))]) [(m, .inr (6, [.int (nI ord), .ref me, .int (nI ns), .ref ml, .ref mw, .int ev, .ref wa, .ref wb, .ref wf, .long y0, .long y1, .ref li])), (me, .inl (cI, 4, .inl ge)), (ml, .inl (cI, 9, .inl gL)), (mw, .inl (cI, 72, .inl gW)), (wa, .inl (cI, 72, .inl ga)), (wb, .inl (cI, 72, .inl gb)), (wf, .inl (cI, 72, .inl gf)), (li, .inl (cI, 240, .inl lim))] := ⟨hD0.1, fun k q h => ⟨k, q.2, h⟩⟩
  generalize hAe : xA [(m, .inr (6, [.int (nI ord), .ref me, .int (nI ns), .ref ml, .ref mw, .int ev, .ref wa, .ref wb, .ref wf, .long y0, .long y1, .ref li])), (me, .inl (cI, 4, .inl ge)), (ml, .inl (cI, 9, .inl gL)), (mw, .inl (cI, 72, .inl gW)), (wa, .inl (cI, 72, .inl ga)), (wb, .inl (cI, 72, .inl gb)), (wf, .inl (cI, 72, .inl gf)), (li, .inl (cI, 240, .inl lim))] = A at hD ⊢
  have hS : va_S A sZ.heap sZ.heap [] := va_S.rf
  have hl := lv_entry ([.ref m, .int (nI a), .int (nI b)]) (n := 9) (Nat.le_of_ble_eq_true rfl)
  rw [lg_entry_eq]
  generalize (lg_sl ([.ref m, .int (nI a), .int (nI b)]) ++ List.replicate (9 - (lg_sl ([.ref m, .int (nI a), .int (nI b)])).length) Slot.unset).toArray = ls at hl ⊢
  have hl : lv_has ls 9 [(0, .ref m), (1, .int (nI a)), (2, .int (nI b))] := hl
  have haI := sg_n (n := a) (by omega)
  have hbI := sg_n (n := b) (by omega)
  have hB := rwS_bd hns hMm
  have hb0 := sgO_bd hB ho.2 hE a b 0
  have hP : va_P D vwCl [(m, .inr (6, [.int (nI ord), .ref me, .int (nI ns), .ref ml, .ref mw, .int ev, .ref wa, .ref wb, .ref wf, .long y0, .long y1, .ref li])), (me, .inl (cI, 4, .inl ge)), (ml, .inl (cI, 9, .inl gL)), (mw, .inl (cI, 72, .inl gW)), (wa, .inl (cI, 72, .inl ga)), (wb, .inl (cI, 72, .inl gb)), (wf, .inl (cI, 72, .inl gf)), (li, .inl (cI, 240, .inl lim))] sZ.heap := hP
  refine lv_iload_n hx hb dX6_likeliest_0 rfl (lv_at hl 1 rfl) ?_
  refine sg_callRi (va_runS (As := [.int (nI a)]) (rest := []) ⟨hx, hb, hml, hown, hts⟩ (c_X6_isSymbol l D cI cO (nI a)) ⟨(sg_cB 1 hts mcX6_isSymbol ml_X6_53 in_X6 rfl rfl (by decide +kernel) ⟨Nat.le_of_ble_eq_true rfl, Nat.le_of_ble_eq_true rfl⟩), hts _ st_X6_isSymbol⟩ (sg_pS hK hP [] rfl) rfl rfl hl.1 rfl (lv_room (Nat.le_of_ble_eq_true rfl)) dX6_likeliest_1 ⟨Nat.zero_le _, Nat.zero_le _⟩) ?_
  refine ci_beq (P := (0 ≤ (nI a).toInt ∧ (nI a).toInt < 7)) (tgt := 14) hx hb dX6_likeliest_4 rfl (fun h4 => by exfalso; omega) (fun h4 => ?_)
  refine lv_iload_n hx hb dX6_likeliest_7 rfl (lv_at hl 2 rfl) ?_
  refine sg_callRi (va_runS (As := [.int (nI b)]) (rest := []) ⟨hx, hb, hml, hown, hts⟩ (c_X6_isSymbol l D cI cO (nI b)) ⟨(sg_cB 1 hts mcX6_isSymbol ml_X6_53 in_X6 rfl rfl (by decide +kernel) ⟨Nat.le_of_ble_eq_true rfl, Nat.le_of_ble_eq_true rfl⟩), hts _ st_X6_isSymbol⟩ (sg_pS hK hP [] rfl) rfl rfl hl.1 rfl (lv_room (Nat.le_of_ble_eq_true rfl)) dX6_likeliest_8 ⟨Nat.zero_le _, Nat.zero_le _⟩) ?_
  refine ci_bne (P := (0 ≤ (nI b).toInt ∧ (nI b).toInt < 7)) (tgt := 16) hx hb dX6_likeliest_11 rfl (fun h11 => ?_) (fun h11 => by exfalso; omega)
  refine lv_aload_n hx hb dX6_likeliest_16 rfl (lv_at hl 0 rfl) ?_
  refine sg_callWv (fun u17 => [(m, .inr (6, [.int (nI ord), .ref me, .int (nI ns), .ref ml, .ref mw, .int (nI u17.1), .ref wa, .ref wb, .ref wf, .long y0, .long y1, .ref li])), (me, .inl (cI, 4, .inl ge)), (ml, .inl (cI, 9, .inl gL)), (mw, .inl (cI, 72, .inl gW)), (wa, .inl (cI, 72, .inl u17.2.1)), (wb, .inl (cI, 72, .inl u17.2.2.1)), (wf, .inl (cI, 72, .inl u17.2.2.2)), (li, .inl (cI, 240, .inl lim))]) [(true, 0), (true, 1), (true, 2), (true, 3), (true, 4), (true, 5), (true, 6), (true, 7)] (va_runV (As := []) (rest := []) (C := RX6) ⟨hx, hb, hml, hown, hts⟩ (c_X6_look l D cI cO m me ml mw wa wb wf li ord ns ev y0 y1 ge gL gW ga gb gf lim ln wd (by omega) hMm) ⟨(sg_cB 0 hts mcX6_look ml_X6_56 in_X6 rfl rfl (by decide +kernel) ⟨Nat.le_of_ble_eq_true rfl, Nat.le_of_ble_eq_true rfl⟩), hts _ im_X6_look, hts _ se_X6_look⟩ (sg_wV (q0 := 0) hK hP hD [0, 1, 2, 3, 4, 5, 6, 7] (by decide) rfl rfl rfl rfl) rfl rfl hl.1 rfl (lv_room (Nat.le_of_ble_eq_true rfl)) dX6_likeliest_17 ⟨Nat.zero_le _, Nat.zero_le _⟩) hP hD hS [0, 1, 2, 3, 4, 5, 6, 7] rfl (fun _ => rfl) (by decide) (fun _ => rfl) (fun u17 H locs hw17 hP hD hS => ?_)
  have hw17 : sgEv (rwS ln wd ns) u17.2.1 u17.2.2.1 u17.2.2.2 u17.1 := hw17
  refine lv_iconst (v := nI 0) hx hb dX6_likeliest_20 (by decide) ?_
  refine lv_istore_n hx hb dX6_likeliest_21 rfl hl (by decide) rfl (fun ls hl => ?_)
  have hl : lv_has ls 9 [(3, .int (nI 0)), (0, .ref m), (1, .int (nI a)), (2, .int (nI b))] := hl
  refine lv_aload_n hx hb dX6_likeliest_22 rfl (lv_at hl 1 rfl) ?_
  refine lv_iload_n hx hb dX6_likeliest_23 rfl (lv_at hl 2 rfl) ?_
  refine lv_iload_n hx hb dX6_likeliest_24 rfl (lv_at hl 3 rfl) ?_
  refine lv_iconst (v := nI 0) hx hb dX6_likeliest_25 (by decide) ?_
  refine sg_callWv (fun _ => [(m, .inr (6, [.int (nI ord), .ref me, .int (nI ns), .ref ml, .ref mw, .int (nI u17.1), .ref wa, .ref wb, .ref wf, .long (lN (sgO (rwS ln wd ns) ord e a b 0)), .long (lN (sgU (rwS ln wd ns) ord e a b 0)), .ref li])), (me, .inl (cI, 4, .inl ge)), (ml, .inl (cI, 9, .inl gL)), (mw, .inl (cI, 72, .inl gW)), (wa, .inl (cI, 72, .inl u17.2.1)), (wb, .inl (cI, 72, .inl u17.2.2.1)), (wf, .inl (cI, 72, .inl u17.2.2.2)), (li, .inl (cI, 240, .inl lim))]) [(true, 0), (true, 1), (true, 2), (true, 3), (true, 4), (true, 5), (true, 6), (true, 7)] (va_runV (As := [.int (nI a), .int (nI b), .int (nI 0)]) (rest := []) (C := RX6) ⟨hx, hb, hml, hown, hts⟩ (c_X6_reckon l D cI cO m me ml mw wa wb wf li ord ns y0 y1 ge gL gW u17.2.1 u17.2.2.1 u17.2.2.2 lim u17.1 (rwS ln wd ns) e a b 0 hw17 hB (by omega) hE hge (by omega) (by omega) (by omega)) ⟨(sg_cB 3 hts mcX6_reckon ml_X6_92 in_X6 rfl rfl (by decide +kernel) ⟨Nat.le_of_ble_eq_true rfl, Nat.le_of_ble_eq_true rfl⟩), hts _ im_X6_reckon, hts _ se_X6_reckon⟩ (sg_wV (q0 := 0) hK hP hD [0, 1, 2, 3, 4, 5, 6, 7] (by decide) rfl rfl rfl rfl) rfl rfl hl.1 rfl (lv_room (Nat.le_of_ble_eq_true rfl)) dX6_likeliest_26 ⟨Nat.zero_le _, Nat.zero_le _⟩) hP hD hS [0, 1, 2, 3, 4, 5, 6, 7] rfl (fun _ => rfl) (by decide) (fun _ => rfl) (fun u26 H locs hw26 hP hD hS => ?_)
  refine lv_aload_n hx hb dX6_likeliest_29 rfl (lv_at hl 1 rfl) ?_
  refine va_get (D := D) (ci := 6) (v := .long (lN (sgO (rwS ln wd ns) ord e a b 0))) (C := RX6) (T := TX6) (N := 12) hx hb hts hinX6 hown hK.1 hP 0 rfl rfl 9 (by decide) (hts _ fl_X6_76) (fun _ h9 => h9) rfl dX6_likeliest_30 ?_
  refine lv_lstore hx hb dX6_likeliest_33 hl (by decide) rfl (fun ls hl => ?_)
  have hl : lv_has ls 9 [(4, .long (lN (sgO (rwS ln wd ns) ord e a b 0))), (3, .int (nI 0)), (0, .ref m), (1, .int (nI a)), (2, .int (nI b))] := hl
  refine lv_aload_n hx hb dX6_likeliest_35 rfl (lv_at hl 2 rfl) ?_
  refine va_get (D := D) (ci := 6) (v := .long (lN (sgU (rwS ln wd ns) ord e a b 0))) (C := RX6) (T := TX6) (N := 12) hx hb hts hinX6 hown hK.1 hP 0 rfl rfl 10 (by decide) (hts _ fl_X6_82) (fun _ h9 => h9) rfl dX6_likeliest_36 ?_
  refine lv_lstore hx hb dX6_likeliest_39 hl (by decide) rfl (fun ls hl => ?_)
  have hl : lv_has ls 9 [(6, .long (lN (sgU (rwS ln wd ns) ord e a b 0))), (4, .long (lN (sgO (rwS ln wd ns) ord e a b 0))), (3, .int (nI 0)), (0, .ref m), (1, .int (nI a)), (2, .int (nI b))] := hl
  refine lv_iconst (v := nI 1) hx hb dX6_likeliest_41 (by decide) ?_
  refine lv_istore hx hb dX6_likeliest_42 hl (by decide) rfl (fun ls hl => ?_)
  have hl : lv_has ls 9 [(8, .int (nI 1)), (6, .long (lN (sgU (rwS ln wd ns) ord e a b 0))), (4, .long (lN (sgO (rwS ln wd ns) ord e a b 0))), (3, .int (nI 0)), (0, .ref m), (1, .int (nI a)), (2, .int (nI b))] := hl
  refine sw_loop (I := fun kM ls H locs => ∃ (w : Nat) (best : Nat) (bo : Nat) (bu : Nat) (z0 : Int64) (z1 : Int64), kM = 6 - w ∧ lv_has ls 9 [(8, .int (nI w)), (6, .long (lN bu)), (4, .long (lN bo)), (3, .int (nI best)), (0, .ref m), (1, .int (nI a)), (2, .int (nI b))] ∧ va_P D vwCl [(m, .inr (6, [.int (nI ord), .ref me, .int (nI ns), .ref ml, .ref mw, .int (nI u17.1), .ref wa, .ref wb, .ref wf, .long z0, .long z1, .ref li])), (me, .inl (cI, 4, .inl ge)), (ml, .inl (cI, 9, .inl gL)), (mw, .inl (cI, 72, .inl gW)), (wa, .inl (cI, 72, .inl u17.2.1)), (wb, .inl (cI, 72, .inl u17.2.2.1)), (wf, .inl (cI, 72, .inl u17.2.2.2)), (li, .inl (cI, 240, .inl lim))] H ∧ va_D A [(m, .inr (6, [.int (nI ord), .ref me, .int (nI ns), .ref ml, .ref mw, .int (nI u17.1), .ref wa, .ref wb, .ref wf, .long z0, .long z1, .ref li])), (me, .inl (cI, 4, .inl ge)), (ml, .inl (cI, 9, .inl gL)), (mw, .inl (cI, 72, .inl gW)), (wa, .inl (cI, 72, .inl u17.2.1)), (wb, .inl (cI, 72, .inl u17.2.2.1)), (wf, .inl (cI, 72, .inl u17.2.2.2)), (li, .inl (cI, 240, .inl lim))] ∧ va_S A sZ.heap H locs ∧ (w ≤ 6) ∧ (bo < 2147483648) ∧ (bu < 2147483648) ∧ (sgLk (fun w => sgO (rwS ln wd ns) ord e a b w) (fun w => sgU (rwS ln wd ns) ord e a b w) 5 1 0 (sgO (rwS ln wd ns) ord e a b 0) (sgU (rwS ln wd ns) ord e a b 0) = sgLk (fun w => sgO (rwS ln wd ns) ord e a b w) (fun w => sgU (rwS ln wd ns) ord e a b w) (6 - w) w best bo bu)) ?_ _ ⟨1, 0, sgO (rwS ln wd ns) ord e a b 0, sgU (rwS ln wd ns) ord e a b 0, lN (sgO (rwS ln wd ns) ord e a b 0), lN (sgU (rwS ln wd ns) ord e a b 0), rfl, hl, hP, hD, hS, by omega, hb0.2.1, hb0.2.2.2, rfl⟩
  intro kM ls H locs hI ih44
  obtain ⟨w, best, bo, bu, z0, z1, hkM, hl, hP, hD, hS, hi, hbo, hbu, hq⟩ := hI
  refine lv_iload hx hb dX6_likeliest_44 (lv_at hl 0 rfl) ?_
  refine lv_bipush (v := nI 6) hx hb dX6_likeliest_46 (by decide) ?_
  refine ci_icmp_ge (X := ((w : Nat) : Int)) (Y := ((6 : Nat) : Int)) (tgt := 98) hx hb (sg_n (by omega)) (sg_n (by omega)) dX6_likeliest_48 rfl (fun h48 => ?_) (fun h48 => ?_)
  · refine lv_iload_n hx hb dX6_likeliest_98 rfl (lv_at hl 3 rfl) ?_
    exact W.iret hx hb hr (fun tZ ht hW => ⟨⟨_, (u17, z0, z1), rfl, (by rw [hq, show 6 - w = 0 by omega]; rfl), by show va_P D vwCl _ tZ.heap; rw [ht]; exact hP⟩, hS.F ht⟩) hS.2.2 dX6_likeliest_99
  · refine lv_aload_n hx hb dX6_likeliest_51 rfl (lv_at hl 4 rfl) ?_
    refine lv_iload_n hx hb dX6_likeliest_52 rfl (lv_at hl 5 rfl) ?_
    refine lv_iload_n hx hb dX6_likeliest_53 rfl (lv_at hl 6 rfl) ?_
    refine lv_iload hx hb dX6_likeliest_54 (lv_at hl 0 rfl) ?_
    refine sg_callWv (fun _ => [(m, .inr (6, [.int (nI ord), .ref me, .int (nI ns), .ref ml, .ref mw, .int (nI u17.1), .ref wa, .ref wb, .ref wf, .long (lN (sgO (rwS ln wd ns) ord e a b w)), .long (lN (sgU (rwS ln wd ns) ord e a b w)), .ref li])), (me, .inl (cI, 4, .inl ge)), (ml, .inl (cI, 9, .inl gL)), (mw, .inl (cI, 72, .inl gW)), (wa, .inl (cI, 72, .inl u17.2.1)), (wb, .inl (cI, 72, .inl u17.2.2.1)), (wf, .inl (cI, 72, .inl u17.2.2.2)), (li, .inl (cI, 240, .inl lim))]) [(true, 0), (true, 1), (true, 2), (true, 3), (true, 4), (true, 5), (true, 6), (true, 7)] (va_runV (As := [.int (nI a), .int (nI b), .int (nI w)]) (rest := []) (C := RX6) ⟨hx, hb, hml, hown, hts⟩ (c_X6_reckon l D cI cO m me ml mw wa wb wf li ord ns z0 z1 ge gL gW u17.2.1 u17.2.2.1 u17.2.2.2 lim u17.1 (rwS ln wd ns) e a b w hw17 hB (by omega) hE hge (by omega) (by omega) (by omega)) ⟨(sg_cB 3 hts mcX6_reckon ml_X6_92 in_X6 rfl rfl (by decide +kernel) ⟨Nat.le_of_ble_eq_true rfl, Nat.le_of_ble_eq_true rfl⟩), hts _ im_X6_reckon, hts _ se_X6_reckon⟩ (sg_wV (q0 := 0) hK hP hD [0, 1, 2, 3, 4, 5, 6, 7] (by decide) rfl rfl rfl rfl) rfl rfl hl.1 rfl (lv_room (Nat.le_of_ble_eq_true rfl)) dX6_likeliest_56 ⟨Nat.zero_le _, Nat.zero_le _⟩) hP hD hS [0, 1, 2, 3, 4, 5, 6, 7] rfl (fun _ => rfl) (by decide) (fun _ => rfl) (fun u56 H locs hw56 hP hD hS => ?_)
    refine lv_aload_n hx hb dX6_likeliest_59 rfl (lv_at hl 4 rfl) ?_
    refine va_get (D := D) (ci := 6) (v := .long (lN (sgO (rwS ln wd ns) ord e a b w))) (C := RX6) (T := TX6) (N := 12) hx hb hts hinX6 hown hK.1 hP 0 rfl rfl 9 (by decide) (hts _ fl_X6_76) (fun _ h9 => h9) rfl dX6_likeliest_60 ?_
    refine lv_lload hx hb dX6_likeliest_63 (lv_at hl 1 rfl) ?_
    refine n_lmul hx hb dX6_likeliest_65 ?_
    refine lv_lload hx hb dX6_likeliest_66 (lv_at hl 2 rfl) ?_
    refine lv_aload_n hx hb dX6_likeliest_68 rfl (lv_at hl 4 rfl) ?_
    refine va_get (D := D) (ci := 6) (v := .long (lN (sgU (rwS ln wd ns) ord e a b w))) (C := RX6) (T := TX6) (N := 12) hx hb hts hinX6 hown hK.1 hP 0 rfl rfl 10 (by decide) (hts _ fl_X6_82) (fun _ h9 => h9) rfl dX6_likeliest_69 ?_
    refine n_lmul hx hb dX6_likeliest_72 ?_
    have hbd := sgO_bd hB ho.2 hE a b w
    have hm1 := sg_mul31 hbd.2.1 hbu
    have hm2 := sg_mul31 hbo hbd.2.2.2
    refine W.lcmp hx hb dX6_likeliest_73 ?_
    refine ci_if_le (X := (if bo * (sgU (rwS ln wd ns) ord e a b w) < (sgO (rwS ln wd ns) ord e a b w) * bu then (1 : Int) else if (sgO (rwS ln wd ns) ord e a b w) * bu = bo * (sgU (rwS ln wd ns) ord e a b w) then 0 else -1)) (tgt := 92) hx hb (sg_cmp (by omega) (by omega)) dX6_likeliest_74 rfl (fun h74 => ?_) (fun h74 => ?_)
    · refine lv_iinc (v := nI (w + 1)) hx hb dX6_likeliest_92 hl (k := 0) rfl (sg_inc _) (by decide) rfl (fun ls hl => ?_)
      have hl : lv_has ls 9 [(8, .int (nI (w + 1))), (6, .long (lN bu)), (4, .long (lN bo)), (3, .int (nI best)), (0, .ref m), (1, .int (nI a)), (2, .int (nI b))] := hl
      refine lv_goto (tgt := 44) hx hb dX6_likeliest_95 rfl ?_
      exact ih44 _ _ _ _ ⟨w + 1, best, bo, bu, lN (sgO (rwS ln wd ns) ord e a b w), lN (sgU (rwS ln wd ns) ord e a b w), rfl, lv_sub hl [0, 1, 2, 3, 4, 5, 6] rfl, hP, hD, hS, by omega, by first | exact hbo | exact hbd.2.1, by first | exact hbu | exact hbd.2.2.2, by first | exact hq.trans (sgLk_p (o := (fun w => sgO (rwS ln wd ns) ord e a b w)) (u := (fun w => sgU (rwS ln wd ns) ord e a b w)) (by omega) (by show _ * _ < _ * _; omega)) | exact hq.trans (sgLk_z (o := (fun w => sgO (rwS ln wd ns) ord e a b w)) (u := (fun w => sgU (rwS ln wd ns) ord e a b w)) (by omega) (by show ¬ _ * _ < _ * _; omega))⟩ (by omega)
    · refine lv_iload hx hb dX6_likeliest_77 (lv_at hl 0 rfl) ?_
      refine lv_istore_n hx hb dX6_likeliest_79 rfl hl (by decide) rfl (fun ls hl => ?_)
      have hl : lv_has ls 9 [(3, .int (nI w)), (8, .int (nI w)), (6, .long (lN bu)), (4, .long (lN bo)), (0, .ref m), (1, .int (nI a)), (2, .int (nI b))] := hl
      refine lv_aload_n hx hb dX6_likeliest_80 rfl (lv_at hl 4 rfl) ?_
      refine va_get (D := D) (ci := 6) (v := .long (lN (sgO (rwS ln wd ns) ord e a b w))) (C := RX6) (T := TX6) (N := 12) hx hb hts hinX6 hown hK.1 hP 0 rfl rfl 9 (by decide) (hts _ fl_X6_76) (fun _ h9 => h9) rfl dX6_likeliest_81 ?_
      refine lv_lstore hx hb dX6_likeliest_84 hl (by decide) rfl (fun ls hl => ?_)
      have hl : lv_has ls 9 [(4, .long (lN (sgO (rwS ln wd ns) ord e a b w))), (3, .int (nI w)), (8, .int (nI w)), (6, .long (lN bu)), (0, .ref m), (1, .int (nI a)), (2, .int (nI b))] := hl
      refine lv_aload_n hx hb dX6_likeliest_86 rfl (lv_at hl 4 rfl) ?_
      refine va_get (D := D) (ci := 6) (v := .long (lN (sgU (rwS ln wd ns) ord e a b w))) (C := RX6) (T := TX6) (N := 12) hx hb hts hinX6 hown hK.1 hP 0 rfl rfl 10 (by decide) (hts _ fl_X6_82) (fun _ h9 => h9) rfl dX6_likeliest_87 ?_
      refine lv_lstore hx hb dX6_likeliest_90 hl (by decide) rfl (fun ls hl => ?_)
      have hl : lv_has ls 9 [(6, .long (lN (sgU (rwS ln wd ns) ord e a b w))), (4, .long (lN (sgO (rwS ln wd ns) ord e a b w))), (3, .int (nI w)), (8, .int (nI w)), (0, .ref m), (1, .int (nI a)), (2, .int (nI b))] := hl
      refine lv_iinc (v := nI (w + 1)) hx hb dX6_likeliest_92 hl (k := 3) rfl (sg_inc _) (by decide) rfl (fun ls hl => ?_)
      have hl : lv_has ls 9 [(8, .int (nI (w + 1))), (6, .long (lN (sgU (rwS ln wd ns) ord e a b w))), (4, .long (lN (sgO (rwS ln wd ns) ord e a b w))), (3, .int (nI w)), (0, .ref m), (1, .int (nI a)), (2, .int (nI b))] := hl
      refine lv_goto (tgt := 44) hx hb dX6_likeliest_95 rfl ?_
      exact ih44 _ _ _ _ ⟨w + 1, w, sgO (rwS ln wd ns) ord e a b w, sgU (rwS ln wd ns) ord e a b w, lN (sgO (rwS ln wd ns) ord e a b w), lN (sgU (rwS ln wd ns) ord e a b w), rfl, lv_sub hl [0, 1, 2, 3, 4, 5, 6] rfl, hP, hD, hS, by omega, by first | exact hbo | exact hbd.2.1, by first | exact hbu | exact hbd.2.2.2, by first | exact hq.trans (sgLk_p (o := (fun w => sgO (rwS ln wd ns) ord e a b w)) (u := (fun w => sgU (rwS ln wd ns) ord e a b w)) (by omega) (by show _ * _ < _ * _; omega)) | exact hq.trans (sgLk_z (o := (fun w => sgO (rwS ln wd ns) ord e a b w)) (u := (fun w => sgU (rwS ln wd ns) ord e a b w)) (by omega) (by show ¬ _ * _ < _ * _; omega))⟩ (by omega)

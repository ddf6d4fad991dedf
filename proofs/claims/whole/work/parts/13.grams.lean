/-! the class SmoothedGrams: its methods but the constructor -/
def sgPt (n X : Nat) (i : Int32) : Int32 := if 0 ≤ i.toInt ∧ i.toInt < (n : Int) then nI (dg 4294967296 i.toInt.toNat X) else nI 0
theorem sgCg_le {rw : Nat → Nat → Nat → Nat → Nat} (h : sgBd rw) (ord k g : Nat) : sgCg rw ord k g ≤ 72 := sgC_le h _ _ _ _ _
theorem sgG_p {rw : Nat → Nat → Nat → Nat → Nat} {ord k n : Nat} (h : 0 < sgCg rw ord k n) : sgG rw ord k (n + 1) = sgG rw ord k n + 1 := by
  show _ + (if _ then 1 else 0) = _
  rw [if_pos h]
theorem sgG_z {rw : Nat → Nat → Nat → Nat → Nat} {ord k n : Nat} (h : ¬ 0 < sgCg rw ord k n) : sgG rw ord k (n + 1) = sgG rw ord k n := by
  show _ + (if _ then 1 else 0) = _
  rw [if_neg h]
  rfl
theorem sgFd_hit {rw : Nat → Nat → Nat → Nat → Nat} {ord k all g n : Nat} {i : Int32} (hg : g < all) (h : 0 < sgCg rw ord k g) (hi : nI n = i) : sgFd rw ord k i (all - g) g n = nI g := by
  rw [show all - g = (all - (g + 1)) + 1 by omega]
  show (if _ then (if _ then _ else _) else _) = _
  rw [if_pos h, if_pos hi]
theorem sgFd_next {rw : Nat → Nat → Nat → Nat → Nat} {ord k all g n : Nat} {i : Int32} (hg : g < all) (h : 0 < sgCg rw ord k g) (hi : ¬ nI n = i) : sgFd rw ord k i (all - g) g n = sgFd rw ord k i (all - (g + 1)) (g + 1) (n + 1) := by
  rw [show all - g = (all - (g + 1)) + 1 by omega]
  show (if _ then (if _ then _ else _) else _) = _
  rw [if_pos h, if_neg hi]
theorem sgFd_skip {rw : Nat → Nat → Nat → Nat → Nat} {ord k all g n : Nat} {i : Int32} (hg : g < all) (h : ¬ 0 < sgCg rw ord k g) : sgFd rw ord k i (all - g) g n = sgFd rw ord k i (all - (g + 1)) (g + 1) n := by
  rw [show all - g = (all - (g + 1)) + 1 by omega]
  show (if _ then (if _ then _ else _) else _) = _
  rw [if_neg h]
theorem sgFd_end {rw : Nat → Nat → Nat → Nat → Nat} {ord k all g n : Nat} {i : Int32} (hg : all ≤ g) : sgFd rw ord k i (all - g) g n = -1 := by
  rw [show all - g = 0 by omega]
  rfl
theorem sg_mul31 {a b : Nat} (ha : a < 2147483648) (hb : b < 2147483648) : a * b < 4611686018427387904 := by
  have : a * b ≤ 2147483647 * 2147483647 := Nat.mul_le_mul (by omega) (by omega)
  omega
theorem sgLk_p {o u : Nat → Nat} {n w best bo bu : Nat} (hw : w < n) (h : bo * u w < o w * bu) : sgLk o u (n - w) w best bo bu = sgLk o u (n - (w + 1)) (w + 1) w (o w) (u w) := by
  rw [show n - w = (n - (w + 1)) + 1 by omega]
  show (if _ then _ else _) = _
  rw [if_pos h]
theorem sgLk_z {o u : Nat → Nat} {n w best bo bu : Nat} (hw : w < n) (h : ¬ bo * u w < o w * bu) : sgLk o u (n - w) w best bo bu = sgLk o u (n - (w + 1)) (w + 1) best bo bu := by
  rw [show n - w = (n - (w + 1)) + 1 by omega]
  show (if _ then _ else _) = _
  rw [if_neg h]
theorem sgR1_s1 {ln : Nat → Nat} {wd : Nat → Nat → Nat} {s i r : Nat} (hw : ∀ j, j < ln s → wd s j < 5) (hr : r < 7) : sgR1 ln wd 1 (r / 49) (r / 7 % 7) (r % 7) s (i + 1) = sgR1 ln wd 1 (r / 49) (r / 7 % 7) (r % 7) s i + (if r = sgSy ln wd s (i + 2) then 1 else 0) := by
  show _ + (if sgM _ _ _ _ _ _ _ = true then 1 else 0) = _
  rw [sgM_row1 hr (sgSy_lt hw _)]
  simp
theorem sgR1_s2 {ln : Nat → Nat} {wd : Nat → Nat → Nat} {s i r : Nat} (hw : ∀ j, j < ln s → wd s j < 5) (hr : r < 49) : sgR1 ln wd 2 (r / 49) (r / 7 % 7) (r % 7) s (i + 1) = sgR1 ln wd 2 (r / 49) (r / 7 % 7) (r % 7) s i + (if r = sgSy ln wd s (i + 1) * 7 + sgSy ln wd s (i + 2) then 1 else 0) := by
  show _ + (if sgM _ _ _ _ _ _ _ = true then 1 else 0) = _
  rw [sgM_row2 hr (sgSy_lt hw _) (sgSy_lt hw _)]
  simp
theorem sgR1_s3 {ln : Nat → Nat} {wd : Nat → Nat → Nat} {s i r : Nat} (hw : ∀ j, j < ln s → wd s j < 5) (hr : r < 343) : sgR1 ln wd 3 (r / 49) (r / 7 % 7) (r % 7) s (i + 1) = sgR1 ln wd 3 (r / 49) (r / 7 % 7) (r % 7) s i + (if r = (sgSy ln wd s i * 7 + sgSy ln wd s (i + 1)) * 7 + sgSy ln wd s (i + 2) then 1 else 0) := by
  show _ + (if sgM _ _ _ _ _ _ _ = true then 1 else 0) = _
  rw [sgM_row3 hr (sgSy_lt hw _) (sgSy_lt hw _) (sgSy_lt hw _)]
  simp
theorem sg_plus1 (a b : Nat) : nI a + nI 1 * nI b = nI (a + b) := by rw [pk_mul, nI_add, Nat.one_mul]
/-- the three tables, set forth by the events of one sentence -/
def sgFwd (ln : Nat → Nat) (wd : Nat → Nat → Nat) (s n : Nat) (dl : Int32) (f1 f2 f3 g1 g2 g3 : Nat → Int32) : Prop := (∀ r, r < 7 → g1 r = f1 r + dl * nI (sgR1 ln wd 1 (r / 49) (r / 7 % 7) (r % 7) s n)) ∧ (∀ r, r < 49 → g2 r = f2 r + dl * nI (sgR1 ln wd 2 (r / 49) (r / 7 % 7) (r % 7) s n)) ∧ ∀ r, r < 343 → g3 r = f3 r + dl * nI (sgR1 ln wd 3 (r / 49) (r / 7 % 7) (r % 7) s n)
theorem sgFwd_0 (ln : Nat → Nat) (wd : Nat → Nat → Nat) (s : Nat) (dl : Int32) (f1 f2 f3 : Nat → Int32) : sgFwd ln wd s 0 dl f1 f2 f3 f1 f2 f3 := by
  have h : ∀ x : Int32, x = x + dl * nI 0 := fun x => by rw [nI_0, Int32.mul_zero, Int32.add_zero]
  exact ⟨fun r _ => h _, fun r _ => h _, fun r _ => h _⟩
theorem sgFwd_s {ln : Nat → Nat} {wd : Nat → Nat → Nat} {s i : Nat} {dl : Int32} {f1 f2 f3 g1 g2 g3 : Nat → Int32} (hw : ∀ j, j < ln s → wd s j < 5) (h : sgFwd ln wd s i dl f1 f2 f3 g1 g2 g3) :
    sgFwd ln wd s (i + 1) dl f1 f2 f3 (upd g1 (sgSy ln wd s (i + 2)) (g1 (sgSy ln wd s (i + 2)) + dl)) (upd g2 (sgSy ln wd s (i + 1) * 7 + sgSy ln wd s (i + 2)) (g2 (sgSy ln wd s (i + 1) * 7 + sgSy ln wd s (i + 2)) + dl)) (upd g3 ((sgSy ln wd s i * 7 + sgSy ln wd s (i + 1)) * 7 + sgSy ln wd s (i + 2)) (g3 ((sgSy ln wd s i * 7 + sgSy ln wd s (i + 1)) * 7 + sgSy ln wd s (i + 2)) + dl)) :=
  ⟨sg_addE h.1 (fun _ hr => sgR1_s1 hw hr), sg_addE h.2.1 (fun _ hr => sgR1_s2 hw hr), sg_addE h.2.2 (fun _ hr => sgR1_s3 hw hr)⟩
theorem sgHold_up {ln : Nat → Nat} {wd : Nat → Nat → Nat} {s : Nat} {f1 f2 f3 g1 g2 g3 : Nat → Int32} (h : sgHold (fun k a b c => sgRaw ln wd k a b c s) f1 f2 f3) (hf : sgFwd ln wd s (ln s + 1) (nI 1) f1 f2 f3 g1 g2 g3) : sgHold (fun k a b c => sgRaw ln wd k a b c (s + 1)) g1 g2 g3 :=
  ⟨fun r hr => by rw [hf.1 r hr, h.1 r hr, sg_plus1]; rfl, fun r hr => by rw [hf.2.1 r hr, h.2.1 r hr, sg_plus1]; rfl, fun r hr => by rw [hf.2.2 r hr, h.2.2 r hr, sg_plus1]; rfl⟩
theorem sgHold_down {ln : Nat → Nat} {wd : Nat → Nat → Nat} {s : Nat} {f1 f2 f3 g1 g2 g3 : Nat → Int32} (h : sgHold (fun k a b c => sgRaw ln wd k a b c (s + 1)) f1 f2 f3) (hf : sgFwd ln wd s (ln s + 1) (-1) f1 f2 f3 g1 g2 g3) : sgHold (fun k a b c => sgRaw ln wd k a b c s) g1 g2 g3 :=
  ⟨fun r hr => by rw [hf.1 r hr, h.1 r hr]; exact sg_minus _ _, fun r hr => by rw [hf.2.1 r hr, h.2.1 r hr]; exact sg_minus _ _, fun r hr => by rw [hf.2.2 r hr, h.2.2 r hr]; exact sg_minus _ _⟩
set_option maxHeartbeats 4000000 in
set_option maxRecDepth 100000 in
theorem c_part_any (l : Launch) (D : va_G) (cI cO : ClassId) (a : Nat) (pa : Nat) (n : Nat) (X : Nat) (i : Int32) (hn : n < 2147483648) : Met l yX2_part (.code yX2_part cX2_part 2 (some .int) :: sgT) ({ frames := 0, cells := 0, slots := 0, locals := 0 }) (sgPc D cI cO [.ref a, .int i] [(a, .inr (2, [.ref pa])), (pa, .inl (cI, n, .inl (dF X)))]) (vp_Si (fun r => r = sgPt n X i)) 0 0 (fun _ => False) := by
  refine Met.ofW (cc := cX2_part) (maxL := 2) (ret := (some .int)) (by decide) rfl ?_
  intro pZ eZ sZ mZ argsZ belowZ methZ cZ s₁ BZ hml hv
  obtain ⟨rfl, hP, hK⟩ := hv
  have hx := BZ.exec
  have hb := BZ.bytes
  have hr := BZ.returns
  have hts : ∀ wZ ∈ sgT, wZ.before ([.ref a, .int i] : List Value).toArray sZ = true := fun wZ h => atoms_spec (ws := (.code yX2_part cX2_part 2 (some .int) :: sgT)) BZ.pre wZ (List.mem_cons_of_mem _ h)
  have hown : sZ.vm.findClass RX2 = some mZ.cls := findClass_of_methodNamed BZ.named
  have hlocks := BZ.notSynchronized
  have hl := lv_entry ([.ref a, .int i]) (n := 2) (Nat.le_of_ble_eq_true rfl)
  rw [lg_entry_eq]
  generalize (lg_sl ([.ref a, .int i]) ++ List.replicate (2 - (lg_sl ([.ref a, .int i])).length) Slot.unset).toArray = ls at hl ⊢
  have hl : lv_has ls 2 [(0, .ref a), (1, .int i)] := hl
  refine lv_iload_n hx hb dX2_part_0 rfl (lv_at hl 1 rfl) ?_
  refine ci_if_lt (X := i.toInt) (tgt := 22) hx hb rfl dX2_part_1 rfl (fun h1 => ?_) (fun h1 => ?_)
  · refine lv_iconst (v := nI 0) hx hb dX2_part_22 (by decide) ?_
    exact W.iret hx hb hr (fun tZ ht hW => ⟨_, rfl, (by unfold sgPt; first | rw [if_pos (by omega)] | rw [if_neg (by omega)]), ht⟩) (fun q h => by cases h) dX2_part_23
  · refine lv_iload_n hx hb dX2_part_4 rfl (lv_at hl 1 rfl) ?_
    refine lv_aload_n hx hb dX2_part_5 rfl (lv_at hl 0 rfl) ?_
    refine va_get (D := D) (ci := 2) (v := .ref pa) (C := RX2) (T := TX2) (N := 1) hx hb hts hinX2 hown hK.1 hP 0 rfl rfl 0 (by decide) (hts _ fl_X2_7) (fun _ h9 => h9) rfl dX2_part_6 ?_
    refine va_alen (v := nI n) hx hb hK.1 hP 1 0 rfl rfl rfl dX2_part_9 ?_
    refine ci_icmp_ge (X := i.toInt) (Y := ((n : Nat) : Int)) (tgt := 22) hx hb rfl (sg_n (by omega)) dX2_part_10 rfl (fun h10 => ?_) (fun h10 => ?_)
    · refine lv_iconst (v := nI 0) hx hb dX2_part_22 (by decide) ?_
      exact W.iret hx hb hr (fun tZ ht hW => ⟨_, rfl, (by unfold sgPt; first | rw [if_pos (by omega)] | rw [if_neg (by omega)]), ht⟩) (fun q h => by cases h) dX2_part_23
    · refine lv_aload_n hx hb dX2_part_13 rfl (lv_at hl 0 rfl) ?_
      refine va_get (D := D) (ci := 2) (v := .ref pa) (C := RX2) (T := TX2) (N := 1) hx hb hts hinX2 hown hK.1 hP 0 rfl rfl 0 (by decide) (hts _ fl_X2_7) (fun _ h9 => h9) rfl dX2_part_14 ?_
      refine lv_iload_n hx hb dX2_part_17 rfl (lv_at hl 1 rfl) ?_
      refine sw_i (y := nI i.toInt.toNat) (sg_ofInt (by omega) (by omega)) ?_
      refine n_iald (v := nI (dg 4294967296 i.toInt.toNat X)) hx hb hK.1 hP 1 0 rfl rfl (by omega) (by omega) rfl dX2_part_18 ?_
      refine lv_goto (tgt := 23) hx hb dX2_part_19 rfl ?_
      exact W.iret hx hb hr (fun tZ ht hW => ⟨_, rfl, (by unfold sgPt; first | rw [if_pos (by omega)] | rw [if_neg (by omega)]), ht⟩) (fun q h => by cases h) dX2_part_23
set_option maxHeartbeats 4000000 in
set_option maxRecDepth 100000 in
theorem c_order_bad (l : Launch) (D : va_G) (cI cO : ClassId) (z : Nat) (h : Nat) (q0 : Nat) (qe : Nat) (hc : Nat) (s : Nat) (s2 : Nat) (xa : Nat) (xb : Nat) (n : Int32) (hn : ¬ (1 ≤ n.toInt ∧ n.toInt ≤ 3)) : Met l yX5_order (.code yX5_order cX5_order 2 (some .boolean) :: sgT) ({ frames := 1, cells := 0, slots := 0, locals := 20 }) (sgPc D cI cO [.ref z, .int n] [(z, .inr (5, [.ref h, .ref q0, .ref qe, .ref hc, .ref s, .ref s2, .ref xa, .ref xb]))]) (vp_Si (fun r => r = nI 0)) 0 0 (fun _ => False) := by
  refine Met.ofW (cc := cX5_order) (maxL := 2) (ret := (some .boolean)) (by decide) rfl ?_
  intro pZ eZ sZ mZ argsZ belowZ methZ cZ s₁ BZ hml hv
  obtain ⟨rfl, hP, hK⟩ := hv
  have hx := BZ.exec
  have hb := BZ.bytes
  have hr := BZ.returns
  have hts : ∀ wZ ∈ sgT, wZ.before ([.ref z, .int n] : List Value).toArray sZ = true := fun wZ h => atoms_spec (ws := (.code yX5_order cX5_order 2 (some .boolean) :: sgT)) BZ.pre wZ (List.mem_cons_of_mem _ h)
  have hown : sZ.vm.findClass RX5 = some mZ.cls := findClass_of_methodNamed BZ.named
  have hlocks := BZ.notSynchronized
  have hl := lv_entry ([.ref z, .int n]) (n := 2) (Nat.le_of_ble_eq_true rfl)
  rw [lg_entry_eq]
  generalize (lg_sl ([.ref z, .int n]) ++ List.replicate (2 - (lg_sl ([.ref z, .int n])).length) Slot.unset).toArray = ls at hl ⊢
  have hl : lv_has ls 2 [(0, .ref z), (1, .int n)] := hl
  refine lv_iload_n hx hb dX5_order_0 rfl (lv_at hl 1 rfl) ?_
  refine sg_callRi (va_runS (As := [.int n]) (rest := []) ⟨hx, hb, hml, hown, hts⟩ (c_X5_isLevel l D cI cO n) ⟨(sg_cB 1 hts mcX5_isLevel ml_X5_56 in_X5 rfl rfl (by decide +kernel) ⟨Nat.le_of_ble_eq_true rfl, Nat.le_of_ble_eq_true rfl⟩), hts _ st_X5_isLevel⟩ (sg_pS hK hP [] rfl) rfl rfl hl.1 rfl (lv_room (Nat.le_of_ble_eq_true rfl)) dX5_order_1 ⟨Nat.zero_le _, Nat.zero_le _⟩) ?_
  refine ci_bne (P := (1 ≤ n.toInt ∧ n.toInt ≤ 3)) (tgt := 9) hx hb dX5_order_4 rfl (fun h4 => by exfalso; omega) (fun h4 => ?_)
  refine lv_iconst (v := nI 0) hx hb dX5_order_7 (by decide) ?_
  exact W.zret hx hb hr rfl (fun tZ ht hW => ⟨_, rfl, rfl, ht⟩) (fun q h => by cases h) dX5_order_8
set_option maxHeartbeats 4000000 in
set_option maxRecDepth 100000 in
theorem c_X5_order (l : Launch) (D : va_G) (cI cO : ClassId) (z : Nat) (h : Nat) (q0 : Nat) (qe : Nat) (hc : Nat) (s : Nat) (s2 : Nat) (xa : Nat) (xb : Nat) (q1 : Nat) (q2 : Nat) (q3 : Nat) (ord : Nat) (f1 : Nat → Int32) (f2 : Nat → Int32) (f3 : Nat → Int32) (k : Nat) (hk : 1 ≤ k ∧ k ≤ 3) : Met l yX5_order (.code yX5_order cX5_order 2 (some .boolean) :: sgT) ({ frames := 1, cells := 0, slots := 0, locals := 20 }) (sgWc D cI cO [.ref z, .int (nI k)] [(z, .inr (5, [.ref h, .ref q0, .ref qe, .ref hc, .ref s, .ref s2, .ref xa, .ref xb])), (q0, .inr (1, [.ref q1, .ref q2, .ref q3, .int (nI ord)])), (q1, .inl (cI, 7, .inl f1)), (q2, .inl (cI, 49, .inl f2)), (q3, .inl (cI, 343, .inl f3))]) (va_Qi (fun (r : Int32) (uZ : Unit) => r = nI 1) (fun uZ t => va_P D vwCl [(z, .inr (5, [.ref h, .ref q0, .ref qe, .ref hc, .ref s, .ref s2, .ref xa, .ref xb])), (q0, .inr (1, [.ref q1, .ref q2, .ref q3, .int (nI k)])), (q1, .inl (cI, 7, .inl f1)), (q2, .inl (cI, 49, .inl f2)), (q3, .inl (cI, 343, .inl f3))] t.heap) (xA [(z, .inr (5, [.ref h, .ref q0, .ref qe, .ref hc, .ref s, .ref s2, .ref xa, .ref xb])), (q0, .inr (1, [.ref q1, .ref q2, .ref q3, .int (nI ord)])), (q1, .inl (cI, 7, .inl f1)), (q2, .inl (cI, 49, .inl f2)), (q3, .inl (cI, 343, .inl f3))])) 0 0 (xA [(z, .inr (5, [.ref h, .ref q0, .ref qe, .ref hc, .ref s, .ref s2, .ref xa, .ref xb])), (q0, .inr (1, [.ref q1, .ref q2, .ref q3, .int (nI ord)])), (q1, .inl (cI, 7, .inl f1)), (q2, .inl (cI, 49, .inl f2)), (q3, .inl (cI, 343, .inl f3))]) := by
  refine Met.ofW (cc := cX5_order) (maxL := 2) (ret := (some .boolean)) (by decide) rfl ?_
  intro pZ eZ sZ mZ argsZ belowZ methZ cZ s₁ BZ hml hv
  obtain ⟨rfl, hP, hK, hD0⟩ := hv
  have hx := BZ.exec
  have hb := BZ.bytes
  have hr := BZ.returns
  have hts : ∀ wZ ∈ sgT, wZ.before ([.ref z, .int (nI k)] : List Value).toArray sZ = true := fun wZ h => atoms_spec (ws := (.code yX5_order cX5_order 2 (some .boolean) :: sgT)) BZ.pre wZ (List.mem_cons_of_mem _ h)
  have hown : sZ.vm.findClass RX5 = some mZ.cls := findClass_of_methodNamed BZ.named
  have hlocks := BZ.notSynchronized
  have hD : va_D (xA [(z, .inr (5, [.ref h, .ref q0, .ref qe, .ref hc, .ref s, .ref s2, .ref xa, .ref xb])), (q0, .inr (1, [.ref q1, .ref q2, .ref q3, .int (nI ord)])), (q1, .inl (cI, 7, .inl f1)), (q2, .inl (cI, 49, .inl f2)), (q3, .inl (cI, 343, .inl f3))]) [(z, .inr (5, [.ref h, .ref q0, .ref qe, .ref hc, .ref s, .ref s2, .ref xa, .ref xb])), (q0, .inr (1, [.ref q1, .ref q2, .ref q3, .int (nI ord)])), (q1, .inl (cI, 7, .inl f1)), (q2, .inl (cI, 49, .inl f2)), (q3, .inl (cI, 343, .inl f3))] := ⟨hD0.1, fun k q h => ⟨k, q.2, h⟩⟩
  generalize hAe : xA [(z, .inr (5, [.ref h, .ref q0, .ref qe, .ref hc, .ref s, .ref s2, .ref xa, .ref xb])), (q0, .inr (1, [.ref q1, .ref q2, .ref q3, .int (nI ord)])), (q1, .inl (cI, 7, .inl f1)), (q2, .inl (cI, 49, .inl f2)), (q3, .inl (cI, 343, .inl f3))] = A at hD ⊢
  have hS : va_S A sZ.heap sZ.heap [] := va_S.rf
  have hl := lv_entry ([.ref z, .int (nI k)]) (n := 2) (Nat.le_of_ble_eq_true rfl)
  rw [lg_entry_eq]
  generalize (lg_sl ([.ref z, .int (nI k)]) ++ List.replicate (2 - (lg_sl ([.ref z, .int (nI k)])).length) Slot.unset).toArray = ls at hl ⊢
  have hl : lv_has ls 2 [(0, .ref z), (1, .int (nI k))] := hl
  have hkI := sg_n (n := k) (by omega)
  have hP : va_P D vwCl [(z, .inr (5, [.ref h, .ref q0, .ref qe, .ref hc, .ref s, .ref s2, .ref xa, .ref xb])), (q0, .inr (1, [.ref q1, .ref q2, .ref q3, .int (nI ord)])), (q1, .inl (cI, 7, .inl f1)), (q2, .inl (cI, 49, .inl f2)), (q3, .inl (cI, 343, .inl f3))] sZ.heap := hP
  refine lv_iload_n hx hb dX5_order_0 rfl (lv_at hl 1 rfl) ?_
  refine sg_callRi (va_runS (As := [.int (nI k)]) (rest := []) ⟨hx, hb, hml, hown, hts⟩ (c_X5_isLevel l D cI cO (nI k)) ⟨(sg_cB 1 hts mcX5_isLevel ml_X5_56 in_X5 rfl rfl (by decide +kernel) ⟨Nat.le_of_ble_eq_true rfl, Nat.le_of_ble_eq_true rfl⟩), hts _ st_X5_isLevel⟩ (sg_pS hK hP [] rfl) rfl rfl hl.1 rfl (lv_room (Nat.le_of_ble_eq_true rfl)) dX5_order_1 ⟨Nat.zero_le _, Nat.zero_le _⟩) ?_
  refine ci_bne (P := (1 ≤ (nI k).toInt ∧ (nI k).toInt ≤ 3)) (tgt := 9) hx hb dX5_order_4 rfl (fun h4 => ?_) (fun h4 => by exfalso; omega)
  refine lv_aload_n hx hb dX5_order_9 rfl (lv_at hl 0 rfl) ?_
  refine va_get (D := D) (ci := 5) (v := .ref q0) (C := RX5) (T := TX5) (N := 8) hx hb hts hinX5 hown hK.1 hP 0 rfl rfl 1 (by decide) (hts _ fl_X5_19) (fun _ h9 => h9) rfl dX5_order_10 ?_
  refine lv_iload_n hx hb dX5_order_13 rfl (lv_at hl 1 rfl) ?_
  refine va_put (D := D) (ci := 1) (v := .int (nI k)) (ty := .int) (C := RX1) (T := TX1) (N := 4) hx hb hts hinX1 tyX1 tyX1_ok nmX1 hown hK.1 hP hD hS 1 rfl rfl 3 (by decide) (hts _ fl_X5_60) (fun _ h9 => h9) rfl (by decide +kernel) rfl rfl (Nat.le_of_ble_eq_true rfl) dX5_order_14 (fun H locs hP hD hS => ?_)
  have hP : va_P D vwCl [(z, .inr (5, [.ref h, .ref q0, .ref qe, .ref hc, .ref s, .ref s2, .ref xa, .ref xb])), (q0, .inr (1, [.ref q1, .ref q2, .ref q3, .int (nI k)])), (q1, .inl (cI, 7, .inl f1)), (q2, .inl (cI, 49, .inl f2)), (q3, .inl (cI, 343, .inl f3))] H := hP
  have hD : va_D A [(z, .inr (5, [.ref h, .ref q0, .ref qe, .ref hc, .ref s, .ref s2, .ref xa, .ref xb])), (q0, .inr (1, [.ref q1, .ref q2, .ref q3, .int (nI k)])), (q1, .inl (cI, 7, .inl f1)), (q2, .inl (cI, 49, .inl f2)), (q3, .inl (cI, 343, .inl f3))] := hD
  refine lv_iconst (v := nI 1) hx hb dX5_order_17 (by decide) ?_
  exact W.zret hx hb hr rfl (fun tZ ht hW => ⟨⟨_, (), rfl, rfl, by show va_P D vwCl _ tZ.heap; rw [ht]; exact hP⟩, hS.F ht⟩) hS.2.2 dX5_order_18
set_option maxHeartbeats 4000000 in
set_option maxRecDepth 100000 in
theorem c_discount_bad (l : Launch) (D : va_G) (cI cO : ClassId) (z : Nat) (h : Nat) (q0 : Nat) (qe : Nat) (hc : Nat) (s : Nat) (s2 : Nat) (xa : Nat) (xb : Nat) (n : Int32) (m : Int32) (hn : ¬ ((1 ≤ n.toInt ∧ n.toInt ≤ 3) ∧ 1 ≤ m.toInt ∧ m.toInt ≤ 8)) : Met l yX5_discount (.code yX5_discount cX5_discount 3 (some .boolean) :: sgT) ({ frames := 1, cells := 0, slots := 0, locals := 20 }) (sgPc D cI cO [.ref z, .int n, .int m] [(z, .inr (5, [.ref h, .ref q0, .ref qe, .ref hc, .ref s, .ref s2, .ref xa, .ref xb]))]) (vp_Si (fun r => r = nI 0)) 0 0 (fun _ => False) := by
  refine Met.ofW (cc := cX5_discount) (maxL := 3) (ret := (some .boolean)) (by decide) rfl ?_
  intro pZ eZ sZ mZ argsZ belowZ methZ cZ s₁ BZ hml hv
  obtain ⟨rfl, hP, hK⟩ := hv
  have hx := BZ.exec
  have hb := BZ.bytes
  have hr := BZ.returns
  have hts : ∀ wZ ∈ sgT, wZ.before ([.ref z, .int n, .int m] : List Value).toArray sZ = true := fun wZ h => atoms_spec (ws := (.code yX5_discount cX5_discount 3 (some .boolean) :: sgT)) BZ.pre wZ (List.mem_cons_of_mem _ h)
  have hown : sZ.vm.findClass RX5 = some mZ.cls := findClass_of_methodNamed BZ.named
  have hlocks := BZ.notSynchronized
  have hl := lv_entry ([.ref z, .int n, .int m]) (n := 3) (Nat.le_of_ble_eq_true rfl)
  rw [lg_entry_eq]
  generalize (lg_sl ([.ref z, .int n, .int m]) ++ List.replicate (3 - (lg_sl ([.ref z, .int n, .int m])).length) Slot.unset).toArray = ls at hl ⊢
  have hl : lv_has ls 3 [(0, .ref z), (1, .int n), (2, .int m)] := hl
  refine lv_iload_n hx hb dX5_discount_0 rfl (lv_at hl 1 rfl) ?_
  refine sg_callRi (va_runS (As := [.int n]) (rest := []) ⟨hx, hb, hml, hown, hts⟩ (c_X5_isLevel l D cI cO n) ⟨(sg_cB 1 hts mcX5_isLevel ml_X5_56 in_X5 rfl rfl (by decide +kernel) ⟨Nat.le_of_ble_eq_true rfl, Nat.le_of_ble_eq_true rfl⟩), hts _ st_X5_isLevel⟩ (sg_pS hK hP [] rfl) rfl rfl hl.1 rfl (lv_room (Nat.le_of_ble_eq_true rfl)) dX5_discount_1 ⟨Nat.zero_le _, Nat.zero_le _⟩) ?_
  refine ci_beq (P := (1 ≤ n.toInt ∧ n.toInt ≤ 3)) (tgt := 18) hx hb dX5_discount_4 rfl (fun h4 => ?_) (fun h4 => ?_)
  · refine lv_iconst (v := nI 0) hx hb dX5_discount_18 (by decide) ?_
    exact W.zret hx hb hr rfl (fun tZ ht hW => ⟨_, rfl, rfl, ht⟩) (fun q h => by cases h) dX5_discount_19
  · refine lv_iload_n hx hb dX5_discount_7 rfl (lv_at hl 2 rfl) ?_
    refine lv_iconst (v := nI 1) hx hb dX5_discount_8 (by decide) ?_
    refine ci_icmp_lt (X := m.toInt) (Y := ((1 : Nat) : Int)) (tgt := 18) hx hb rfl (sg_n (by omega)) dX5_discount_9 rfl (fun h9 => ?_) (fun h9 => ?_)
    · refine lv_iconst (v := nI 0) hx hb dX5_discount_18 (by decide) ?_
      exact W.zret hx hb hr rfl (fun tZ ht hW => ⟨_, rfl, rfl, ht⟩) (fun q h => by cases h) dX5_discount_19
    · refine lv_iload_n hx hb dX5_discount_12 rfl (lv_at hl 2 rfl) ?_
      refine lv_bipush (v := nI 8) hx hb dX5_discount_13 (by decide) ?_
      refine ci_icmp_le (X := m.toInt) (Y := ((8 : Nat) : Int)) (tgt := 20) hx hb rfl (sg_n (by omega)) dX5_discount_15 rfl (fun h15 => by exfalso; omega) (fun h15 => ?_)
      refine lv_iconst (v := nI 0) hx hb dX5_discount_18 (by decide) ?_
      exact W.zret hx hb hr rfl (fun tZ ht hW => ⟨_, rfl, rfl, ht⟩) (fun q h => by cases h) dX5_discount_19
set_option maxHeartbeats 4000000 in
set_option maxRecDepth 100000 in
theorem c_X5_discount (l : Launch) (D : va_G) (cI cO : ClassId) (z : Nat) (h : Nat) (q0 : Nat) (qe : Nat) (hc : Nat) (s : Nat) (s2 : Nat) (xa : Nat) (xb : Nat) (fe : Nat → Int32) (k : Nat) (v : Nat) (hk : 1 ≤ k ∧ k ≤ 3) (hv : 1 ≤ v ∧ v ≤ 8) : Met l yX5_discount (.code yX5_discount cX5_discount 3 (some .boolean) :: sgT) ({ frames := 1, cells := 0, slots := 0, locals := 20 }) (sgWc D cI cO [.ref z, .int (nI k), .int (nI v)] [(z, .inr (5, [.ref h, .ref q0, .ref qe, .ref hc, .ref s, .ref s2, .ref xa, .ref xb])), (qe, .inl (cI, 4, .inl fe))]) (va_Qi (fun (r : Int32) (uZ : Unit) => r = nI 1) (fun uZ t => va_P D vwCl [(z, .inr (5, [.ref h, .ref q0, .ref qe, .ref hc, .ref s, .ref s2, .ref xa, .ref xb])), (qe, .inl (cI, 4, .inl (upd fe k (nI v))))] t.heap) (xA [(z, .inr (5, [.ref h, .ref q0, .ref qe, .ref hc, .ref s, .ref s2, .ref xa, .ref xb])), (qe, .inl (cI, 4, .inl fe))])) 0 0 (xA [(z, .inr (5, [.ref h, .ref q0, .ref qe, .ref hc, .ref s, .ref s2, .ref xa, .ref xb])), (qe, .inl (cI, 4, .inl fe))]) := by
  refine Met.ofW (cc := cX5_discount) (maxL := 3) (ret := (some .boolean)) (by decide) rfl ?_
  intro pZ eZ sZ mZ argsZ belowZ methZ cZ s₁ BZ hml hv
  obtain ⟨rfl, hP, hK, hD0⟩ := hv
  have hx := BZ.exec
  have hb := BZ.bytes
  have hr := BZ.returns
  have hts : ∀ wZ ∈ sgT, wZ.before ([.ref z, .int (nI k), .int (nI v)] : List Value).toArray sZ = true := fun wZ h => atoms_spec (ws := (.code yX5_discount cX5_discount 3 (some .boolean) :: sgT)) BZ.pre wZ (List.mem_cons_of_mem _ h)
  have hown : sZ.vm.findClass RX5 = some mZ.cls := findClass_of_methodNamed BZ.named
  have hlocks := BZ.notSynchronized
  have hD : va_D (xA [(z, .inr (5, [.ref h, .ref q0, .ref qe, .ref hc, .ref s, .ref s2, .ref xa, .ref xb])), (qe, .inl (cI, 4, .inl fe))]) [(z, .inr (5, [.ref h, .ref q0, .ref qe, .ref hc, .ref s, .ref s2, .ref xa, .ref xb])), (qe, .inl (cI, 4, .inl fe))] := ⟨hD0.1, fun k q h => ⟨k, q.2, h⟩⟩
  generalize hAe : xA [(z, .inr (5, [.ref h, .ref q0, .ref qe, .ref hc, .ref s, .ref s2, .ref xa, .ref xb])), (qe, .inl (cI, 4, .inl fe))] = A at hD ⊢
  have hS : va_S A sZ.heap sZ.heap [] := va_S.rf
  have hl := lv_entry ([.ref z, .int (nI k), .int (nI v)]) (n := 3) (Nat.le_of_ble_eq_true rfl)
  rw [lg_entry_eq]
  generalize (lg_sl ([.ref z, .int (nI k), .int (nI v)]) ++ List.replicate (3 - (lg_sl ([.ref z, .int (nI k), .int (nI v)])).length) Slot.unset).toArray = ls at hl ⊢
  have hl : lv_has ls 3 [(0, .ref z), (1, .int (nI k)), (2, .int (nI v))] := hl
  have hkI := sg_n (n := k) (by omega)
  have hP : va_P D vwCl [(z, .inr (5, [.ref h, .ref q0, .ref qe, .ref hc, .ref s, .ref s2, .ref xa, .ref xb])), (qe, .inl (cI, 4, .inl fe))] sZ.heap := hP
  refine lv_iload_n hx hb dX5_discount_0 rfl (lv_at hl 1 rfl) ?_
  refine sg_callRi (va_runS (As := [.int (nI k)]) (rest := []) ⟨hx, hb, hml, hown, hts⟩ (c_X5_isLevel l D cI cO (nI k)) ⟨(sg_cB 1 hts mcX5_isLevel ml_X5_56 in_X5 rfl rfl (by decide +kernel) ⟨Nat.le_of_ble_eq_true rfl, Nat.le_of_ble_eq_true rfl⟩), hts _ st_X5_isLevel⟩ (sg_pS hK hP [] rfl) rfl rfl hl.1 rfl (lv_room (Nat.le_of_ble_eq_true rfl)) dX5_discount_1 ⟨Nat.zero_le _, Nat.zero_le _⟩) ?_
  refine ci_beq (P := (1 ≤ (nI k).toInt ∧ (nI k).toInt ≤ 3)) (tgt := 18) hx hb dX5_discount_4 rfl (fun h4 => by exfalso; omega) (fun h4 => ?_)
  refine lv_iload_n hx hb dX5_discount_7 rfl (lv_at hl 2 rfl) ?_
  refine lv_iconst (v := nI 1) hx hb dX5_discount_8 (by decide) ?_
  refine ci_icmp_lt (X := ((v : Nat) : Int)) (Y := ((1 : Nat) : Int)) (tgt := 18) hx hb (sg_n (by omega)) (sg_n (by omega)) dX5_discount_9 rfl (fun h9 => by exfalso; omega) (fun h9 => ?_)
  refine lv_iload_n hx hb dX5_discount_12 rfl (lv_at hl 2 rfl) ?_
  refine lv_bipush (v := nI 8) hx hb dX5_discount_13 (by decide) ?_
  refine ci_icmp_le (X := ((v : Nat) : Int)) (Y := ((8 : Nat) : Int)) (tgt := 20) hx hb (sg_n (by omega)) (sg_n (by omega)) dX5_discount_15 rfl (fun h15 => ?_) (fun h15 => by exfalso; omega)
  refine lv_aload_n hx hb dX5_discount_20 rfl (lv_at hl 0 rfl) ?_
  refine va_get (D := D) (ci := 5) (v := .ref qe) (C := RX5) (T := TX5) (N := 8) hx hb hts hinX5 hown hK.1 hP 0 rfl rfl 2 (by decide) (hts _ fl_X5_23) (fun _ h9 => h9) rfl dX5_discount_21 ?_
  refine lv_iload_n hx hb dX5_discount_24 rfl (lv_at hl 1 rfl) ?_
  refine lv_iload_n hx hb dX5_discount_25 rfl (lv_at hl 2 rfl) ?_
  refine n_iast hx hb hK.1 hP hD hS 1 0 rfl rfl (by omega) (by omega) dX5_discount_26 (fun H locs hP hD hS => ?_)
  have hP : va_P D vwCl [(z, .inr (5, [.ref h, .ref q0, .ref qe, .ref hc, .ref s, .ref s2, .ref xa, .ref xb])), (qe, .inl (cI, 4, .inl (upd fe k (nI v))))] H := hP
  have hD : va_D A [(z, .inr (5, [.ref h, .ref q0, .ref qe, .ref hc, .ref s, .ref s2, .ref xa, .ref xb])), (qe, .inl (cI, 4, .inl (upd fe k (nI v))))] := hD
  refine lv_iconst (v := nI 1) hx hb dX5_discount_27 (by decide) ?_
  exact W.zret hx hb hr rfl (fun tZ ht hW => ⟨⟨_, (), rfl, rfl, by show va_P D vwCl _ tZ.heap; rw [ht]; exact hP⟩, hS.F ht⟩) hS.2.2 dX5_discount_28
set_option maxHeartbeats 4000000 in
set_option maxRecDepth 100000 in
theorem c_word_bad (l : Launch) (D : va_G) (cI cO : ClassId) (z : Nat) (h : Nat) (q0 : Nat) (qe : Nat) (hc : Nat) (s : Nat) (s2 : Nat) (xa : Nat) (xb : Nat) (x : Int32) (hxb : x.toInt < 0 ∨ 5 ≤ x.toInt) : Met l yX5_word (.code yX5_word cX5_word 2 (some .boolean) :: sgT) ({ frames := 1, cells := 0, slots := 0, locals := 22 }) (sgPc D cI cO [.ref z, .int x] [(z, .inr (5, [.ref h, .ref q0, .ref qe, .ref hc, .ref s, .ref s2, .ref xa, .ref xb]))]) (vp_Si (fun r => r = nI 0)) 0 0 (fun _ => False) := by
  refine Met.ofW (cc := cX5_word) (maxL := 2) (ret := (some .boolean)) (by decide) rfl ?_
  intro pZ eZ sZ mZ argsZ belowZ methZ cZ s₁ BZ hml hv
  obtain ⟨rfl, hP, hK⟩ := hv
  have hx := BZ.exec
  have hb := BZ.bytes
  have hr := BZ.returns
  have hts : ∀ wZ ∈ sgT, wZ.before ([.ref z, .int x] : List Value).toArray sZ = true := fun wZ h => atoms_spec (ws := (.code yX5_word cX5_word 2 (some .boolean) :: sgT)) BZ.pre wZ (List.mem_cons_of_mem _ h)
  have hown : sZ.vm.findClass RX5 = some mZ.cls := findClass_of_methodNamed BZ.named
  have hlocks := BZ.notSynchronized
  have hl := lv_entry ([.ref z, .int x]) (n := 2) (Nat.le_of_ble_eq_true rfl)
  rw [lg_entry_eq]
  generalize (lg_sl ([.ref z, .int x]) ++ List.replicate (2 - (lg_sl ([.ref z, .int x])).length) Slot.unset).toArray = ls at hl ⊢
  have hl : lv_has ls 2 [(0, .ref z), (1, .int x)] := hl
  refine lv_iload_n hx hb dX5_word_0 rfl (lv_at hl 1 rfl) ?_
  refine ci_if_lt (X := x.toInt) (tgt := 24) hx hb rfl dX5_word_1 rfl (fun h1 => ?_) (fun h1 => ?_)
  · refine lv_iconst (v := nI 0) hx hb dX5_word_24 (by decide) ?_
    exact W.zret hx hb hr rfl (fun tZ ht hW => ⟨_, rfl, rfl, ht⟩) (fun q h => by cases h) dX5_word_25
  · refine lv_iload_n hx hb dX5_word_4 rfl (lv_at hl 1 rfl) ?_
    refine lv_iconst (v := nI 5) hx hb dX5_word_5 (by decide) ?_
    refine ci_icmp_ge (X := x.toInt) (Y := ((5 : Nat) : Int)) (tgt := 24) hx hb rfl (sg_n (by omega)) dX5_word_6 rfl (fun h6 => ?_) (fun h6 => by exfalso; omega)
    refine lv_iconst (v := nI 0) hx hb dX5_word_24 (by decide) ?_
    exact W.zret hx hb hr rfl (fun tZ ht hW => ⟨_, rfl, rfl, ht⟩) (fun q h => by cases h) dX5_word_25
set_option maxHeartbeats 4000000 in
set_option maxRecDepth 100000 in
theorem c_word_full (l : Launch) (D : va_G) (cI cO : ClassId) (z : Nat) (h : Nat) (q0 : Nat) (qe : Nat) (hc : Nat) (s : Nat) (s2 : Nat) (xa : Nat) (xb : Nat) (ro : Nat) (le : Nat) (ns : Nat) (fL : Nat → Int32) (x : Int32) (hxb : 0 ≤ x.toInt ∧ x.toInt < 5) (hns : ns ≤ 8) (hL : fL ns = nI 8) : Met l yX5_word (.code yX5_word cX5_word 2 (some .boolean) :: sgT) ({ frames := 1, cells := 0, slots := 0, locals := 22 }) (sgPc D cI cO [.ref z, .int x] [(z, .inr (5, [.ref h, .ref q0, .ref qe, .ref hc, .ref s, .ref s2, .ref xa, .ref xb])), (h, .inr (4, [.ref ro, .ref le, .int (nI ns)])), (le, .inl (cI, 9, .inl fL))]) (vp_Si (fun r => r = nI 0)) 0 0 (fun _ => False) := by
  refine Met.ofW (cc := cX5_word) (maxL := 2) (ret := (some .boolean)) (by decide) rfl ?_
  intro pZ eZ sZ mZ argsZ belowZ methZ cZ s₁ BZ hml hv
  obtain ⟨rfl, hP, hK⟩ := hv
  have hx := BZ.exec
  have hb := BZ.bytes
  have hr := BZ.returns
  have hts : ∀ wZ ∈ sgT, wZ.before ([.ref z, .int x] : List Value).toArray sZ = true := fun wZ h => atoms_spec (ws := (.code yX5_word cX5_word 2 (some .boolean) :: sgT)) BZ.pre wZ (List.mem_cons_of_mem _ h)
  have hown : sZ.vm.findClass RX5 = some mZ.cls := findClass_of_methodNamed BZ.named
  have hlocks := BZ.notSynchronized
  have hl := lv_entry ([.ref z, .int x]) (n := 2) (Nat.le_of_ble_eq_true rfl)
  rw [lg_entry_eq]
  generalize (lg_sl ([.ref z, .int x]) ++ List.replicate (2 - (lg_sl ([.ref z, .int x])).length) Slot.unset).toArray = ls at hl ⊢
  have hl : lv_has ls 2 [(0, .ref z), (1, .int x)] := hl
  refine lv_iload_n hx hb dX5_word_0 rfl (lv_at hl 1 rfl) ?_
  refine ci_if_lt (X := x.toInt) (tgt := 24) hx hb rfl dX5_word_1 rfl (fun h1 => by exfalso; omega) (fun h1 => ?_)
  refine lv_iload_n hx hb dX5_word_4 rfl (lv_at hl 1 rfl) ?_
  refine lv_iconst (v := nI 5) hx hb dX5_word_5 (by decide) ?_
  refine ci_icmp_ge (X := x.toInt) (Y := ((5 : Nat) : Int)) (tgt := 24) hx hb rfl (sg_n (by omega)) dX5_word_6 rfl (fun h6 => by exfalso; omega) (fun h6 => ?_)
  refine lv_aload_n hx hb dX5_word_9 rfl (lv_at hl 0 rfl) ?_
  refine va_get (D := D) (ci := 5) (v := .ref h) (C := RX5) (T := TX5) (N := 8) hx hb hts hinX5 hown hK.1 hP 0 rfl rfl 0 (by decide) (hts _ fl_X5_10) (fun _ h9 => h9) rfl dX5_word_10 ?_
  refine lv_iload_n hx hb dX5_word_13 rfl (lv_at hl 1 rfl) ?_
  refine sg_callRi (va_runV (As := [.int x]) (rest := []) (C := RX4) ⟨hx, hb, hml, hown, hts⟩ (c_append_full l D cI cO h ro le ns fL x (by omega) hL) ⟨(sg_cB 1 hts mcX4_append ml_X5_64 in_X4 rfl rfl (by decide +kernel) ⟨Nat.le_of_ble_eq_true rfl, Nat.le_of_ble_eq_true rfl⟩), hts _ im_X4_append, hts _ se_X4_append⟩ (sg_pV (q0 := 1) hK hP [1, 2] rfl rfl rfl rfl) rfl rfl hl.1 rfl (lv_room (Nat.le_of_ble_eq_true rfl)) dX5_word_14 ⟨Nat.zero_le _, Nat.zero_le _⟩) ?_
  refine ci_if_eq (X := ((0 : Nat) : Int)) (tgt := 24) hx hb (sg_n (by omega)) dX5_word_17 rfl (fun h17 => ?_) (fun h17 => by exfalso; omega)
  refine lv_iconst (v := nI 0) hx hb dX5_word_24 (by decide) ?_
  exact W.zret hx hb hr rfl (fun tZ ht hW => ⟨_, rfl, rfl, ht⟩) (fun q h => by cases h) dX5_word_25
set_option maxHeartbeats 4000000 in
set_option maxRecDepth 100000 in
theorem c_X5_word (l : Launch) (D : va_G) (cI cO : ClassId) (z : Nat) (h : Nat) (q0 : Nat) (qe : Nat) (hc : Nat) (s : Nat) (s2 : Nat) (xa : Nat) (xb : Nat) (ro : Nat) (le : Nat) (ns : Nat) (fL : Nat → Int32) (ra : Nat → Nat) (fR : Nat → Nat → Int32) (n : Nat) (x : Int32) (hxb : 0 ≤ x.toInt ∧ x.toInt < 5) (hns : ns ≤ 8) (hL : fL ns = nI n) (hn : n < 8) : Met l yX5_word (.code yX5_word cX5_word 2 (some .boolean) :: sgT) ({ frames := 1, cells := 0, slots := 0, locals := 22 }) (sgWc D cI cO [.ref z, .int x] (rw9 ra cI fR ++ [(z, .inr (5, [.ref h, .ref q0, .ref qe, .ref hc, .ref s, .ref s2, .ref xa, .ref xb])), (h, .inr (4, [.ref ro, .ref le, .int (nI ns)])), (ro, .inl (cO, 9, .inr (.inr (.inr (.inr (fun j => some (ra j))))))), (le, .inl (cI, 9, .inl fL))])) (va_Qi (fun (r : Int32) (uZ : Unit) => r = nI 1) (fun uZ t => va_P D vwCl (rw9 ra cI (va_up fR ns (upd (fR ns) n x)) ++ [(z, .inr (5, [.ref h, .ref q0, .ref qe, .ref hc, .ref s, .ref s2, .ref xa, .ref xb])), (h, .inr (4, [.ref ro, .ref le, .int (nI ns)])), (ro, .inl (cO, 9, .inr (.inr (.inr (.inr (fun j => some (ra j))))))), (le, .inl (cI, 9, .inl (upd fL ns (nI (n + 1)))))]) t.heap) (xA (rw9 ra cI fR ++ [(z, .inr (5, [.ref h, .ref q0, .ref qe, .ref hc, .ref s, .ref s2, .ref xa, .ref xb])), (h, .inr (4, [.ref ro, .ref le, .int (nI ns)])), (ro, .inl (cO, 9, .inr (.inr (.inr (.inr (fun j => some (ra j))))))), (le, .inl (cI, 9, .inl fL))]))) 0 0 (xA (rw9 ra cI fR ++ [(z, .inr (5, [.ref h, .ref q0, .ref qe, .ref hc, .ref s, .ref s2, .ref xa, .ref xb])), (h, .inr (4, [.ref ro, .ref le, .int (nI ns)])), (ro, .inl (cO, 9, .inr (.inr (.inr (.inr (fun j => some (ra j))))))), (le, .inl (cI, 9, .inl fL))])) := by
  refine Met.ofW (cc := cX5_word) (maxL := 2) (ret := (some .boolean)) (by decide) rfl ?_
  intro pZ eZ sZ mZ argsZ belowZ methZ cZ s₁ BZ hml hv
  obtain ⟨rfl, hP, hK, hD0⟩ := hv
  have hx := BZ.exec
  have hb := BZ.bytes
  have hr := BZ.returns
  have hts : ∀ wZ ∈ sgT, wZ.before ([.ref z, .int x] : List Value).toArray sZ = true := fun wZ h => atoms_spec (ws := (.code yX5_word cX5_word 2 (some .boolean) :: sgT)) BZ.pre wZ (List.mem_cons_of_mem _ h)
  have hown : sZ.vm.findClass RX5 = some mZ.cls := findClass_of_methodNamed BZ.named
  have hlocks := BZ.notSynchronized
  have hD : va_D (xA (rw9 ra cI fR ++ [(z, .inr (5, [.ref h, .ref q0, .ref qe, .ref hc, .ref s, .ref s2, .ref xa, .ref xb])), (h, .inr (4, [.ref ro, .ref le, .int (nI ns)])), (ro, .inl (cO, 9, .inr (.inr (.inr (.inr (fun j => some (ra j))))))), (le, .inl (cI, 9, .inl fL))])) (rw9 ra cI fR ++ [(z, .inr (5, [.ref h, .ref q0, .ref qe, .ref hc, .ref s, .ref s2, .ref xa, .ref xb])), (h, .inr (4, [.ref ro, .ref le, .int (nI ns)])), (ro, .inl (cO, 9, .inr (.inr (.inr (.inr (fun j => some (ra j))))))), (le, .inl (cI, 9, .inl fL))]) := ⟨hD0.1, fun k q h => ⟨k, q.2, h⟩⟩
  generalize hAe : xA (rw9 ra cI fR ++ [(z, .inr (5, [.ref h, .ref q0, .ref qe, .ref hc, .ref s, .ref s2, .ref xa, .ref xb])), (h, .inr (4, [.ref ro, .ref le, .int (nI ns)])), (ro, .inl (cO, 9, .inr (.inr (.inr (.inr (fun j => some (ra j))))))), (le, .inl (cI, 9, .inl fL))]) = A at hD ⊢
  have hS : va_S A sZ.heap sZ.heap [] := va_S.rf
  have hl := lv_entry ([.ref z, .int x]) (n := 2) (Nat.le_of_ble_eq_true rfl)
  rw [lg_entry_eq]
  generalize (lg_sl ([.ref z, .int x]) ++ List.replicate (2 - (lg_sl ([.ref z, .int x])).length) Slot.unset).toArray = ls at hl ⊢
  have hl : lv_has ls 2 [(0, .ref z), (1, .int x)] := hl
  have hP : va_P D vwCl (rw9 ra cI fR ++ [(z, .inr (5, [.ref h, .ref q0, .ref qe, .ref hc, .ref s, .ref s2, .ref xa, .ref xb])), (h, .inr (4, [.ref ro, .ref le, .int (nI ns)])), (ro, .inl (cO, 9, .inr (.inr (.inr (.inr (fun j => some (ra j))))))), (le, .inl (cI, 9, .inl fL))]) sZ.heap := hP
  refine lv_iload_n hx hb dX5_word_0 rfl (lv_at hl 1 rfl) ?_
  refine ci_if_lt (X := x.toInt) (tgt := 24) hx hb rfl dX5_word_1 rfl (fun h1 => by exfalso; omega) (fun h1 => ?_)
  refine lv_iload_n hx hb dX5_word_4 rfl (lv_at hl 1 rfl) ?_
  refine lv_iconst (v := nI 5) hx hb dX5_word_5 (by decide) ?_
  refine ci_icmp_ge (X := x.toInt) (Y := ((5 : Nat) : Int)) (tgt := 24) hx hb rfl (sg_n (by omega)) dX5_word_6 rfl (fun h6 => by exfalso; omega) (fun h6 => ?_)
  refine lv_aload_n hx hb dX5_word_9 rfl (lv_at hl 0 rfl) ?_
  refine va_get (D := D) (ci := 5) (v := .ref h) (C := RX5) (T := TX5) (N := 8) hx hb hts hinX5 hown hK.1 hP 9 rfl rfl 0 (by decide) (hts _ fl_X5_10) (fun _ h9 => h9) rfl dX5_word_10 ?_
  refine lv_iload_n hx hb dX5_word_13 rfl (lv_at hl 1 rfl) ?_
  refine sg_callWi (fun _ => (rw9 ra cI (va_up fR ns (upd (fR ns) n x)) ++ [(z, .inr (5, [.ref h, .ref q0, .ref qe, .ref hc, .ref s, .ref s2, .ref xa, .ref xb])), (h, .inr (4, [.ref ro, .ref le, .int (nI ns)])), (ro, .inl (cO, 9, .inr (.inr (.inr (.inr (fun j => some (ra j))))))), (le, .inl (cI, 9, .inl (upd fL ns (nI (n + 1)))))])) [(true, 0), (true, 1), (true, 2), (true, 3), (true, 4), (true, 5), (true, 6), (true, 7), (true, 8), (false, 9), (true, 9), (true, 10), (true, 11)] (va_runV (As := [.int x]) (rest := []) (C := RX4) ⟨hx, hb, hml, hown, hts⟩ (c_X4_append l D cI cO h ro le ns fL ra fR n x (by omega) hL (by omega)) ⟨(sg_cB 1 hts mcX4_append ml_X5_64 in_X4 rfl rfl (by decide +kernel) ⟨Nat.le_of_ble_eq_true rfl, Nat.le_of_ble_eq_true rfl⟩), hts _ im_X4_append, hts _ se_X4_append⟩ (sg_wV (q0 := 10) hK hP hD [0, 1, 2, 3, 4, 5, 6, 7, 8, 10, 11, 12] (by decide) rfl rfl rfl rfl) rfl rfl hl.1 rfl (lv_room (Nat.le_of_ble_eq_true rfl)) dX5_word_14 ⟨Nat.zero_le _, Nat.zero_le _⟩) hP hD hS [0, 1, 2, 3, 4, 5, 6, 7, 8, 10, 11, 12] rfl (fun _ => rfl) (by decide) (fun _ => rfl) (fun r14 u14 H locs hw14 hP hD hS => ?_)
  subst hw14
  refine ci_if_eq (X := ((1 : Nat) : Int)) (tgt := 24) hx hb (sg_n (by omega)) dX5_word_17 rfl (fun h17 => by exfalso; omega) (fun h17 => ?_)
  refine lv_iconst (v := nI 1) hx hb dX5_word_20 (by decide) ?_
  refine lv_goto (tgt := 25) hx hb dX5_word_21 rfl ?_
  exact W.zret hx hb hr rfl (fun tZ ht hW => ⟨⟨_, (), rfl, rfl, by show va_P D vwCl _ tZ.heap; rw [ht]; exact hP⟩, hS.F ht⟩) hS.2.2 dX5_word_25
set_option maxHeartbeats 4000000 in
set_option maxRecDepth 100000 in
theorem c_X5_countOpen (l : Launch) (D : va_G) (cI cO : ClassId) (z : Nat) (h : Nat) (q0 : Nat) (qe : Nat) (hc : Nat) (s : Nat) (s2 : Nat) (xa : Nat) (xb : Nat) (ro : Nat) (le : Nat) (ns : Nat) (fL : Nat → Int32) (ra : Nat → Nat) (fR : Nat → Nat → Int32) (q1 : Nat) (q2 : Nat) (q3 : Nat) (ord : Nat) (f1 : Nat → Int32) (f2 : Nat → Int32) (f3 : Nat → Int32) (ln : Nat → Nat) (wd : Nat → Nat → Nat) (dl : Int32) (hns : ns ≤ 8) (hL : fL ns = nI (ln ns)) (hl8 : ln ns ≤ 8) (hW : ∀ i, i < ln ns → fR ns i = nI (wd ns i)) (hWd : ∀ j, j < ln ns → wd ns j < 5) : Met l yX5_countOpen (.code yX5_countOpen cX5_countOpen 5 none :: sgT) ({ frames := 2, cells := 0, slots := 0, locals := 46 }) (sgWc D cI cO [.ref z, .int dl] (rw9 ra cI fR ++ [(z, .inr (5, [.ref h, .ref q0, .ref qe, .ref hc, .ref s, .ref s2, .ref xa, .ref xb])), (h, .inr (4, [.ref ro, .ref le, .int (nI ns)])), (ro, .inl (cO, 9, .inr (.inr (.inr (.inr (fun j => some (ra j))))))), (le, .inl (cI, 9, .inl fL)), (q0, .inr (1, [.ref q1, .ref q2, .ref q3, .int (nI ord)])), (q1, .inl (cI, 7, .inl f1)), (q2, .inl (cI, 49, .inl f2)), (q3, .inl (cI, 343, .inl f3))])) (va_Qv (fun uZ : (Nat → Int32) × (Nat → Int32) × (Nat → Int32) => sgFwd ln wd ns (ln ns + 1) dl f1 f2 f3 uZ.1 uZ.2.1 uZ.2.2) (fun uZ t => va_P D vwCl (rw9 ra cI fR ++ [(z, .inr (5, [.ref h, .ref q0, .ref qe, .ref hc, .ref s, .ref s2, .ref xa, .ref xb])), (h, .inr (4, [.ref ro, .ref le, .int (nI ns)])), (ro, .inl (cO, 9, .inr (.inr (.inr (.inr (fun j => some (ra j))))))), (le, .inl (cI, 9, .inl fL)), (q0, .inr (1, [.ref q1, .ref q2, .ref q3, .int (nI ord)])), (q1, .inl (cI, 7, .inl uZ.1)), (q2, .inl (cI, 49, .inl uZ.2.1)), (q3, .inl (cI, 343, .inl uZ.2.2))]) t.heap) (xA (rw9 ra cI fR ++ [(z, .inr (5, [.ref h, .ref q0, .ref qe, .ref hc, .ref s, .ref s2, .ref xa, .ref xb])), (h, .inr (4, [.ref ro, .ref le, .int (nI ns)])), (ro, .inl (cO, 9, .inr (.inr (.inr (.inr (fun j => some (ra j))))))), (le, .inl (cI, 9, .inl fL)), (q0, .inr (1, [.ref q1, .ref q2, .ref q3, .int (nI ord)])), (q1, .inl (cI, 7, .inl f1)), (q2, .inl (cI, 49, .inl f2)), (q3, .inl (cI, 343, .inl f3))]))) 0 0 (xA (rw9 ra cI fR ++ [(z, .inr (5, [.ref h, .ref q0, .ref qe, .ref hc, .ref s, .ref s2, .ref xa, .ref xb])), (h, .inr (4, [.ref ro, .ref le, .int (nI ns)])), (ro, .inl (cO, 9, .inr (.inr (.inr (.inr (fun j => some (ra j))))))), (le, .inl (cI, 9, .inl fL)), (q0, .inr (1, [.ref q1, .ref q2, .ref q3, .int (nI ord)])), (q1, .inl (cI, 7, .inl f1)), (q2, .inl (cI, 49, .inl f2)), (q3, .inl (cI, 343, .inl f3))])) := by
  refine Met.ofW (cc := cX5_countOpen) (maxL := 5) (ret := none) (by decide) rfl ?_
  intro pZ eZ sZ mZ argsZ belowZ methZ cZ s₁ BZ hml hv
  obtain ⟨rfl, hP, hK, hD0⟩ := hv
  have hx := BZ.exec
  have hb := BZ.bytes
  have hr := BZ.returns
  have hts : ∀ wZ ∈ sgT, wZ.before ([.ref z, .int dl] : List Value).toArray sZ = true := fun wZ h => atoms_spec (ws := (.code yX5_countOpen cX5_countOpen 5 none :: sgT)) BZ.pre wZ (List.mem_cons_of_mem _ h)
  have hown : sZ.vm.findClass RX5 = some mZ.cls := findClass_of_methodNamed BZ.named
  have hlocks := BZ.notSynchronized
  have hD : va_D (xA (rw9 ra cI fR ++ [(z, .inr (5, [.ref h, .ref q0, .ref qe, .ref hc, .ref s, .ref s2, .ref xa, .ref xb])), (h, .inr (4, [.ref ro, .ref le, .int (nI ns)])), (ro, .inl (cO, 9, .inr (.inr (.inr (.inr (fun j => some (ra j))))))), (le, .inl (cI, 9, .inl fL)), (q0, .inr (1, [.ref q1, .ref q2, .ref q3, .int (nI ord)])), (q1, .inl (cI, 7, .inl f1)), (q2, .inl (cI, 49, .inl f2)), (q3, .inl (cI, 343, .inl f3))])) (rw9 ra cI fR ++ [(z, .inr (5, [.ref h, .ref q0, .ref qe, .ref hc, .ref s, .ref s2, .ref xa, .ref xb])), (h, .inr (4, [.ref ro, .ref le, .int (nI ns)])), (ro, .inl (cO, 9, .inr (.inr (.inr (.inr (fun j => some (ra j))))))), (le, .inl (cI, 9, .inl fL)), (q0, .inr (1, [.ref q1, .ref q2, .ref q3, .int (nI ord)])), (q1, .inl (cI, 7, .inl f1)), (q2, .inl (cI, 49, .inl f2)), (q3, .inl (cI, 343, .inl f3))]) := ⟨hD0.1, fun k q h => ⟨k, q.2, h⟩⟩
  generalize hAe : xA (rw9 ra cI fR ++ [(z, .inr (5, [.ref h, .ref q0, .ref qe, .ref hc, .ref s, .ref s2, .ref xa, .ref xb])), (h, .inr (4, [.ref ro, .ref le, .int (nI ns)])), (ro, .inl (cO, 9, .inr (.inr (.inr (.inr (fun j => some (ra j))))))), (le, .inl (cI, 9, .inl fL)), (q0, .inr (1, [.ref q1, .ref q2, .ref q3, .int (nI ord)])), (q1, .inl (cI, 7, .inl f1)), (q2, .inl (cI, 49, .inl f2)), (q3, .inl (cI, 343, .inl f3))]) = A at hD ⊢
  have hS : va_S A sZ.heap sZ.heap [] := va_S.rf
  have hl := lv_entry ([.ref z, .int dl]) (n := 5) (Nat.le_of_ble_eq_true rfl)
  rw [lg_entry_eq]
  generalize (lg_sl ([.ref z, .int dl]) ++ List.replicate (5 - (lg_sl ([.ref z, .int dl])).length) Slot.unset).toArray = ls at hl ⊢
  have hl : lv_has ls 5 [(0, .ref z), (1, .int dl)] := hl
  have hP : va_P D vwCl (rw9 ra cI fR ++ [(z, .inr (5, [.ref h, .ref q0, .ref qe, .ref hc, .ref s, .ref s2, .ref xa, .ref xb])), (h, .inr (4, [.ref ro, .ref le, .int (nI ns)])), (ro, .inl (cO, 9, .inr (.inr (.inr (.inr (fun j => some (ra j))))))), (le, .inl (cI, 9, .inl fL)), (q0, .inr (1, [.ref q1, .ref q2, .ref q3, .int (nI ord)])), (q1, .inl (cI, 7, .inl f1)), (q2, .inl (cI, 49, .inl f2)), (q3, .inl (cI, 343, .inl f3))]) sZ.heap := hP
  refine lv_iconst (v := nI 0) hx hb dX5_countOpen_0 (by decide) ?_
  refine lv_istore_n hx hb dX5_countOpen_1 rfl hl (by decide) rfl (fun ls hl => ?_)
  have hl : lv_has ls 5 [(2, .int (nI 0)), (0, .ref z), (1, .int dl)] := hl
  refine sw_loop (I := fun kM ls H locs => ∃ (i : Nat) (g1 : Nat → Int32) (g2 : Nat → Int32) (g3 : Nat → Int32), kM = ln ns + 1 - i ∧ lv_has ls 5 [(2, .int (nI i)), (0, .ref z), (1, .int dl)] ∧ va_P D vwCl (rw9 ra cI fR ++ [(z, .inr (5, [.ref h, .ref q0, .ref qe, .ref hc, .ref s, .ref s2, .ref xa, .ref xb])), (h, .inr (4, [.ref ro, .ref le, .int (nI ns)])), (ro, .inl (cO, 9, .inr (.inr (.inr (.inr (fun j => some (ra j))))))), (le, .inl (cI, 9, .inl fL)), (q0, .inr (1, [.ref q1, .ref q2, .ref q3, .int (nI ord)])), (q1, .inl (cI, 7, .inl g1)), (q2, .inl (cI, 49, .inl g2)), (q3, .inl (cI, 343, .inl g3))]) H ∧ va_D A (rw9 ra cI fR ++ [(z, .inr (5, [.ref h, .ref q0, .ref qe, .ref hc, .ref s, .ref s2, .ref xa, .ref xb])), (h, .inr (4, [.ref ro, .ref le, .int (nI ns)])), (ro, .inl (cO, 9, .inr (.inr (.inr (.inr (fun j => some (ra j))))))), (le, .inl (cI, 9, .inl fL)), (q0, .inr (1, [.ref q1, .ref q2, .ref q3, .int (nI ord)])), (q1, .inl (cI, 7, .inl g1)), (q2, .inl (cI, 49, .inl g2)), (q3, .inl (cI, 343, .inl g3))]) ∧ va_S A sZ.heap H locs ∧ (i ≤ ln ns + 1) ∧ (sgFwd ln wd ns i dl f1 f2 f3 g1 g2 g3)) ?_ _ ⟨0, f1, f2, f3, rfl, hl, hP, hD, hS, by omega, sgFwd_0 _ _ _ _ _ _ _⟩
  intro kM ls H locs hI ih2
  obtain ⟨i, g1, g2, g3, hkM, hl, hP, hD, hS, hi, hf⟩ := hI
  refine lv_iload_n hx hb dX5_countOpen_2 rfl (lv_at hl 0 rfl) ?_
  refine lv_aload_n hx hb dX5_countOpen_3 rfl (lv_at hl 1 rfl) ?_
  refine va_get (D := D) (ci := 5) (v := .ref h) (C := RX5) (T := TX5) (N := 8) hx hb hts hinX5 hown hK.1 hP 9 rfl rfl 0 (by decide) (hts _ fl_X5_10) (fun _ h9 => h9) rfl dX5_countOpen_4 ?_
  refine sg_callRi (va_runV (As := []) (rest := [.int (nI i)]) (C := RX4) ⟨hx, hb, hml, hown, hts⟩ (c_X4_openLength l D cI cO h ro le ns fL (ln ns) (by omega) hL) ⟨(sg_cB 0 hts mcX4_openLength ml_X5_76 in_X4 rfl rfl (by decide +kernel) ⟨Nat.le_of_ble_eq_true rfl, Nat.le_of_ble_eq_true rfl⟩), hts _ im_X4_openLength, hts _ se_X4_openLength⟩ (sg_pV (q0 := 10) hK hP [10, 12] rfl rfl rfl rfl) rfl rfl hl.1 rfl (lv_room (Nat.le_of_ble_eq_true rfl)) dX5_countOpen_7 ⟨Nat.zero_le _, Nat.zero_le _⟩) ?_
  refine ci_icmp_gt (X := ((i : Nat) : Int)) (Y := (((ln ns) : Nat) : Int)) (tgt := 61) hx hb (sg_n (by omega)) (sg_n (by omega)) dX5_countOpen_10 rfl (fun h10 => ?_) (fun h10 => ?_)
  · exact W.vret hx hb hr (fun tZ ht hW => ⟨⟨(g1, g2, g3), rfl, (by have hi1 : i = ln ns + 1 := (by omega); rw [← hi1]; exact hf), by show va_P D vwCl _ tZ.heap; rw [ht]; exact hP⟩, hS.F ht⟩) hS.2.2 dX5_countOpen_61
  · refine lv_aload_n hx hb dX5_countOpen_13 rfl (lv_at hl 1 rfl) ?_
    refine va_get (D := D) (ci := 5) (v := .ref h) (C := RX5) (T := TX5) (N := 8) hx hb hts hinX5 hown hK.1 hP 9 rfl rfl 0 (by decide) (hts _ fl_X5_10) (fun _ h9 => h9) rfl dX5_countOpen_14 ?_
    refine lv_iload_n hx hb dX5_countOpen_17 rfl (lv_at hl 0 rfl) ?_
    refine lv_iconst (v := nI 2) hx hb dX5_countOpen_18 (by decide) ?_
    refine lv_isub hx hb dX5_countOpen_19 ?_
    refine sg_callRi (va_runV (As := [.int ((nI i) - (nI 2))]) (rest := []) (C := RX4) ⟨hx, hb, hml, hown, hts⟩ (c_X4_symbolAt l D cI cO h ro le ns fL ra fR ln wd ((nI i) - (nI 2)) i (by omega) hL (by omega) hW (by have h9 := pk_sub_toInt (a := i) (b := 2) (by omega) (by omega); omega)) ⟨(sg_cB 1 hts mcX4_symbolAt ml_X5_149 in_X4 rfl rfl (by decide +kernel) ⟨Nat.le_of_ble_eq_true rfl, Nat.le_of_ble_eq_true rfl⟩), hts _ im_X4_symbolAt, hts _ se_X4_symbolAt⟩ (sg_pV (q0 := 10) hK hP [0, 1, 2, 3, 4, 5, 6, 7, 8, 10, 11, 12] rfl rfl rfl rfl) rfl rfl hl.1 rfl (lv_room (Nat.le_of_ble_eq_true rfl)) dX5_countOpen_20 ⟨Nat.zero_le _, Nat.zero_le _⟩) ?_
    refine lv_istore_n hx hb dX5_countOpen_23 rfl hl (by decide) rfl (fun ls hl => ?_)
    have hl : lv_has ls 5 [(3, .int (nI (sgSy ln wd ns i))), (2, .int (nI i)), (0, .ref z), (1, .int dl)] := hl
    refine lv_aload_n hx hb dX5_countOpen_24 rfl (lv_at hl 2 rfl) ?_
    refine va_get (D := D) (ci := 5) (v := .ref h) (C := RX5) (T := TX5) (N := 8) hx hb hts hinX5 hown hK.1 hP 9 rfl rfl 0 (by decide) (hts _ fl_X5_10) (fun _ h9 => h9) rfl dX5_countOpen_25 ?_
    refine lv_iload_n hx hb dX5_countOpen_28 rfl (lv_at hl 1 rfl) ?_
    refine lv_iconst (v := nI 1) hx hb dX5_countOpen_29 (by decide) ?_
    refine lv_isub hx hb dX5_countOpen_30 ?_
    refine sg_callRi (va_runV (As := [.int ((nI i) - (nI 1))]) (rest := []) (C := RX4) ⟨hx, hb, hml, hown, hts⟩ (c_X4_symbolAt l D cI cO h ro le ns fL ra fR ln wd ((nI i) - (nI 1)) (i + 1) (by omega) hL (by omega) hW (by have h9 := pk_sub_toInt (a := i) (b := 1) (by omega) (by omega); omega)) ⟨(sg_cB 1 hts mcX4_symbolAt ml_X5_149 in_X4 rfl rfl (by decide +kernel) ⟨Nat.le_of_ble_eq_true rfl, Nat.le_of_ble_eq_true rfl⟩), hts _ im_X4_symbolAt, hts _ se_X4_symbolAt⟩ (sg_pV (q0 := 10) hK hP [0, 1, 2, 3, 4, 5, 6, 7, 8, 10, 11, 12] rfl rfl rfl rfl) rfl rfl hl.1 rfl (lv_room (Nat.le_of_ble_eq_true rfl)) dX5_countOpen_31 ⟨Nat.zero_le _, Nat.zero_le _⟩) ?_
    refine lv_istore hx hb dX5_countOpen_34 hl (by decide) rfl (fun ls hl => ?_)
    have hl : lv_has ls 5 [(4, .int (nI (sgSy ln wd ns (i + 1)))), (3, .int (nI (sgSy ln wd ns i))), (2, .int (nI i)), (0, .ref z), (1, .int dl)] := hl
    refine lv_aload_n hx hb dX5_countOpen_36 rfl (lv_at hl 3 rfl) ?_
    refine va_get (D := D) (ci := 5) (v := .ref q0) (C := RX5) (T := TX5) (N := 8) hx hb hts hinX5 hown hK.1 hP 9 rfl rfl 1 (by decide) (hts _ fl_X5_19) (fun _ h9 => h9) rfl dX5_countOpen_37 ?_
    refine lv_iload_n hx hb dX5_countOpen_40 rfl (lv_at hl 1 rfl) ?_
    refine lv_iload hx hb dX5_countOpen_41 (lv_at hl 0 rfl) ?_
    refine lv_aload_n hx hb dX5_countOpen_43 rfl (lv_at hl 3 rfl) ?_
    refine va_get (D := D) (ci := 5) (v := .ref h) (C := RX5) (T := TX5) (N := 8) hx hb hts hinX5 hown hK.1 hP 9 rfl rfl 0 (by decide) (hts _ fl_X5_10) (fun _ h9 => h9) rfl dX5_countOpen_44 ?_
    refine lv_iload_n hx hb dX5_countOpen_47 rfl (lv_at hl 2 rfl) ?_
    refine sg_callRi (va_runV (As := [.int (nI i)]) (rest := [.int (nI (sgSy ln wd ns (i + 1))), .int (nI (sgSy ln wd ns i)), .ref q0]) (C := RX4) ⟨hx, hb, hml, hown, hts⟩ (c_X4_symbolAt l D cI cO h ro le ns fL ra fR ln wd (nI i) (i + 2) (by omega) hL (by omega) hW (by have h9 := sg_n (n := i) (by omega); omega)) ⟨(sg_cB 1 hts mcX4_symbolAt ml_X5_149 in_X4 rfl rfl (by decide +kernel) ⟨Nat.le_of_ble_eq_true rfl, Nat.le_of_ble_eq_true rfl⟩), hts _ im_X4_symbolAt, hts _ se_X4_symbolAt⟩ (sg_pV (q0 := 10) hK hP [0, 1, 2, 3, 4, 5, 6, 7, 8, 10, 11, 12] rfl rfl rfl rfl) rfl rfl hl.1 rfl (lv_room (Nat.le_of_ble_eq_true rfl)) dX5_countOpen_48 ⟨Nat.zero_le _, Nat.zero_le _⟩) ?_
    refine lv_iload_n hx hb dX5_countOpen_51 rfl (lv_at hl 4 rfl) ?_
    refine sg_callWv (fun _ => (rw9 ra cI fR ++ [(z, .inr (5, [.ref h, .ref q0, .ref qe, .ref hc, .ref s, .ref s2, .ref xa, .ref xb])), (h, .inr (4, [.ref ro, .ref le, .int (nI ns)])), (ro, .inl (cO, 9, .inr (.inr (.inr (.inr (fun j => some (ra j))))))), (le, .inl (cI, 9, .inl fL)), (q0, .inr (1, [.ref q1, .ref q2, .ref q3, .int (nI ord)])), (q1, .inl (cI, 7, .inl (upd g1 (sgSy ln wd ns (i + 2)) (g1 (sgSy ln wd ns (i + 2)) + dl)))), (q2, .inl (cI, 49, .inl (upd g2 ((sgSy ln wd ns (i + 1)) * 7 + (sgSy ln wd ns (i + 2))) (g2 ((sgSy ln wd ns (i + 1)) * 7 + (sgSy ln wd ns (i + 2))) + dl)))), (q3, .inl (cI, 343, .inl (upd g3 (((sgSy ln wd ns i) * 7 + (sgSy ln wd ns (i + 1))) * 7 + (sgSy ln wd ns (i + 2))) (g3 (((sgSy ln wd ns i) * 7 + (sgSy ln wd ns (i + 1))) * 7 + (sgSy ln wd ns (i + 2))) + dl))))])) [(false, 0), (false, 1), (false, 2), (false, 3), (false, 4), (false, 5), (false, 6), (false, 7), (false, 8), (false, 9), (false, 10), (false, 11), (false, 12), (true, 0), (true, 1), (true, 2), (true, 3)] (va_runV (As := [.int (nI (sgSy ln wd ns i)), .int (nI (sgSy ln wd ns (i + 1))), .int (nI (sgSy ln wd ns (i + 2))), .int dl]) (rest := []) (C := RX1) ⟨hx, hb, hml, hown, hts⟩ (c_X1_addEvent l D cI cO q0 q1 q2 q3 ord g1 g2 g3 (sgSy ln wd ns i) (sgSy ln wd ns (i + 1)) (sgSy ln wd ns (i + 2)) dl (sgSy_lt hWd _) (sgSy_lt hWd _) (sgSy_lt hWd _)) ⟨(sg_cB 4 hts mcX1_addEvent ml_X5_152 in_X1 rfl rfl (by decide +kernel) ⟨Nat.le_of_ble_eq_true rfl, Nat.le_of_ble_eq_true rfl⟩), hts _ im_X1_addEvent, hts _ se_X1_addEvent⟩ (sg_wV (q0 := 13) hK hP hD [13, 14, 15, 16] (by decide) rfl rfl rfl rfl) rfl rfl hl.1 rfl (lv_room (Nat.le_of_ble_eq_true rfl)) dX5_countOpen_52 ⟨Nat.zero_le _, Nat.zero_le _⟩) hP hD hS [13, 14, 15, 16] rfl (fun _ => rfl) (by decide) (fun _ => rfl) (fun u52 H locs hw52 hP hD hS => ?_)
    refine lv_iinc (v := nI (i + 1)) hx hb dX5_countOpen_55 hl (k := 2) rfl (sg_inc _) (by decide) rfl (fun ls hl => ?_)
    have hl : lv_has ls 5 [(2, .int (nI (i + 1))), (4, .int (nI (sgSy ln wd ns (i + 1)))), (3, .int (nI (sgSy ln wd ns i))), (0, .ref z), (1, .int dl)] := hl
    refine lv_goto (tgt := 2) hx hb dX5_countOpen_58 rfl ?_
    exact ih2 _ _ _ _ ⟨i + 1, upd g1 (sgSy ln wd ns (i + 2)) (g1 (sgSy ln wd ns (i + 2)) + dl), upd g2 ((sgSy ln wd ns (i + 1)) * 7 + (sgSy ln wd ns (i + 2))) (g2 ((sgSy ln wd ns (i + 1)) * 7 + (sgSy ln wd ns (i + 2))) + dl), upd g3 (((sgSy ln wd ns i) * 7 + (sgSy ln wd ns (i + 1))) * 7 + (sgSy ln wd ns (i + 2))) (g3 (((sgSy ln wd ns i) * 7 + (sgSy ln wd ns (i + 1))) * 7 + (sgSy ln wd ns (i + 2))) + dl), rfl, lv_sub hl [0, 3, 4] rfl, hP, hD, hS, by omega, sgFwd_s hWd hf⟩ (by omega)

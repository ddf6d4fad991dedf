/-! chances, scores, sentences -/
def sgS1 (T K C e o u : Nat) : Nat := if T = 0 then o else (8 * C - e) * u + e * K * o
def sgS2 (T u : Nat) : Nat := if T = 0 then u else 8 * T * u
theorem sgOUw_1 (rw : Nat → Nat → Nat → Nat → Nat) (ord : Nat) (e : Nat → Nat) (a b w t : Nat) : (sgOUw rw ord e a b w (t + 1)).1 = sgS1 (sgTot rw ord (t + 1) a b 6) (sgKin rw ord (t + 1) a b 6) (sgC rw ord (t + 1) a b w) (e (t + 1)) (sgOUw rw ord e a b w t).1 (sgOUw rw ord e a b w t).2 := by
  show (if _ then _ else _ : Nat × Nat).1 = _
  unfold sgS1
  split <;> rfl
theorem sgOUw_2 (rw : Nat → Nat → Nat → Nat → Nat) (ord : Nat) (e : Nat → Nat) (a b w t : Nat) : (sgOUw rw ord e a b w (t + 1)).2 = sgS2 (sgTot rw ord (t + 1) a b 6) (sgOUw rw ord e a b w t).2 := by
  show (if _ then _ else _ : Nat × Nat).2 = _
  unfold sgS2
  split <;> rfl
theorem sg_max {a b : Nat} (ha : a < 1073741824) (hb : b < 1073741824) : (if nI a - nI b < nI 0 then nI 0 else nI a - nI b) = nI (a - b) := by
  have h1 : (nI a - nI b < nI 0) ↔ ((a : Int) - b < 0) := sg_i0 (pk_sub_toInt ha hb) rfl
  by_cases h : a < b
  · rw [if_pos (h1.mpr (by omega)), show a - b = 0 by omega]
  · rw [if_neg (fun q => by have := h1.mp q; omega), pk_sub (by omega)]
def rw9 (ra : Nat → Nat) (cI : ClassId) (fR : Nat → Nat → Int32) : va_W := [(ra 0, .inl (cI, 8, .inl (fR 0))), (ra 1, .inl (cI, 8, .inl (fR 1))), (ra 2, .inl (cI, 8, .inl (fR 2))), (ra 3, .inl (cI, 8, .inl (fR 3))), (ra 4, .inl (cI, 8, .inl (fR 4))), (ra 5, .inl (cI, 8, .inl (fR 5))), (ra 6, .inl (cI, 8, .inl (fR 6))), (ra 7, .inl (cI, 8, .inl (fR 7))), (ra 8, .inl (cI, 8, .inl (fR 8)))]
theorem rw9_at {ra : Nat → Nat} {cI : ClassId} {fR : Nat → Nat → Int32} {X : va_W} {j : Nat} (h : j < 9) : (rw9 ra cI fR ++ X)[j]? = some (ra j, .inl (cI, 8, .inl (fR j))) := by
  have h9 : j = 0 ∨ j = 1 ∨ j = 2 ∨ j = 3 ∨ j = 4 ∨ j = 5 ∨ j = 6 ∨ j = 7 ∨ j = 8 := by omega
  rcases h9 with rfl | rfl | rfl | rfl | rfl | rfl | rfl | rfl | rfl <;> rfl
theorem rw9_set {ra : Nat → Nat} {cI : ClassId} {fR : Nat → Nat → Int32} {X : va_W} {j : Nat} {g : Nat → Int32} (h : j < 9) : (rw9 ra cI fR ++ X).set j (ra j, .inl (cI, 8, .inl g)) = rw9 ra cI (va_up fR j g) ++ X := by
  have h9 : j = 0 ∨ j = 1 ∨ j = 2 ∨ j = 3 ∨ j = 4 ∨ j = 5 ∨ j = 6 ∨ j = 7 ∨ j = 8 := by omega
  rcases h9 with rfl | rfl | rfl | rfl | rfl | rfl | rfl | rfl | rfl <;> rfl
set_option maxHeartbeats 4000000 in
set_option maxRecDepth 100000 in
theorem c_X0_reduce (l : Launch) (D : va_G) (cI cO : ClassId) (h : Nat) (o : Nat) (u : Nat) (ho : o < 2147483648) (hu : u < 2147483648) (hu0 : 1 ≤ u) : Met l yX0_reduce (.code yX0_reduce cX0_reduce 8 none :: sgT) ({ frames := 0, cells := 0, slots := 0, locals := 0 }) (sgWc D cI cO [.ref h] [(h, .inr (0, [.long (lN o), .long (lN u)]))]) (va_Qv (fun uZ : Unit => True) (fun uZ t => va_P D vwCl [(h, .inr (0, [.long (lN (o / Nat.gcd o u)), .long (lN (u / Nat.gcd o u))]))] t.heap) (xA [(h, .inr (0, [.long (lN o), .long (lN u)]))])) 0 0 (xA [(h, .inr (0, [.long (lN o), .long (lN u)]))]) := by
  refine Met.ofW (cc := cX0_reduce) (maxL := 8) (ret := none) (by decide) rfl ?_
  intro pZ eZ sZ mZ argsZ belowZ methZ cZ s₁ BZ hml hv
  obtain ⟨rfl, hP, hK, hD0⟩ := hv
  have hx := BZ.exec
  have hb := BZ.bytes
  have hr := BZ.returns
  have hts : ∀ wZ ∈ sgT, wZ.before ([.ref h] : List Value).toArray sZ = true := fun wZ h => atoms_spec (ws := (.code yX0_reduce cX0_reduce 8 none :: sgT)) BZ.pre wZ (List.mem_cons_of_mem _ h)
  have hown : sZ.vm.findClass RX0 = some mZ.cls := findClass_of_methodNamed BZ.named
  have hlocks := BZ.notSynchronized
  have hD : va_D (xA [(h, .inr (0, [.long (lN o), .long (lN u)]))]) [(h, .inr (0, [.long (lN o), .long (lN u)]))] := ⟨hD0.1, fun k q h => ⟨k, q.2, h⟩⟩
  generalize hAe : xA [(h, .inr (0, [.long (lN o), .long (lN u)]))] = A at hD ⊢
  have hS : va_S A sZ.heap sZ.heap [] := va_S.rf
  have hl := lv_entry ([.ref h]) (n := 8) (Nat.le_of_ble_eq_true rfl)
  rw [lg_entry_eq]
  generalize (lg_sl ([.ref h]) ++ List.replicate (8 - (lg_sl ([.ref h])).length) Slot.unset).toArray = ls at hl ⊢
  have hl : lv_has ls 8 [(0, .ref h)] := hl
  have hg0 : 0 < Nat.gcd o u := Nat.gcd_pos_of_pos_right _ (by omega)
  have hP : va_P D vwCl [(h, .inr (0, [.long (lN o), .long (lN u)]))] sZ.heap := hP
  refine lv_aload_n hx hb dX0_reduce_0 rfl (lv_at hl 0 rfl) ?_
  refine va_get (D := D) (ci := 0) (v := .long (lN o)) (C := RX0) (T := TX0) (N := 2) hx hb hts hinX0 hown hK.1 hP 0 rfl rfl 0 (by decide) (hts _ fl_X0_9) (fun _ h9 => h9) rfl dX0_reduce_1 ?_
  refine lv_lstore_n hx hb dX0_reduce_4 rfl hl (by decide) rfl (fun ls hl => ?_)
  have hl : lv_has ls 8 [(1, .long (lN o)), (0, .ref h)] := hl
  refine lv_aload_n hx hb dX0_reduce_5 rfl (lv_at hl 1 rfl) ?_
  refine va_get (D := D) (ci := 0) (v := .long (lN u)) (C := RX0) (T := TX0) (N := 2) hx hb hts hinX0 hown hK.1 hP 0 rfl rfl 1 (by decide) (hts _ fl_X0_17) (fun _ h9 => h9) rfl dX0_reduce_6 ?_
  refine lv_lstore_n hx hb dX0_reduce_9 rfl hl (by decide) rfl (fun ls hl => ?_)
  have hl : lv_has ls 8 [(3, .long (lN u)), (1, .long (lN o)), (0, .ref h)] := hl
  refine lv_iconst (v := nI 0) hx hb dX0_reduce_10 (by decide) ?_
  refine lv_istore hx hb dX0_reduce_11 hl (by decide) rfl (fun ls hl => ?_)
  have hl : lv_has ls 8 [(5, .int (nI 0)), (3, .long (lN u)), (1, .long (lN o)), (0, .ref h)] := hl
  refine sw_loop (I := fun kM ls H locs => ∃ (t : Nat) (d : Nat) (r : Nat), kM = 1000 - t ∧ lv_has ls 8 [(5, .int (nI t)), (3, .long (lN r)), (1, .long (lN d)), (0, .ref h)] ∧ va_P D vwCl [(h, .inr (0, [.long (lN o), .long (lN u)]))] H ∧ va_D A [(h, .inr (0, [.long (lN o), .long (lN u)]))] ∧ va_S A sZ.heap H locs ∧ (t ≤ 1000) ∧ (Nat.gcd d r = Nat.gcd o u) ∧ (sgFu (1000 - t) d r) ∧ (d < 2147483648) ∧ (r < 2147483648)) ?_ _ ⟨0, o, u, rfl, hl, hP, hD, hS, by omega, rfl, sgFu_1000 _ _ hu, ho, hu⟩
  intro kM ls H locs hI ih13
  obtain ⟨t, d, r, hkM, hl, hP, hD, hS, ht0, hg, hfu, hd, hr2⟩ := hI
  refine sw_cut 43 (I := fun st ls H locs => ∃ (dd : Nat), st = [] ∧ lv_has ls 8 [(1, .long (lN dd)), (0, .ref h)] ∧ va_P D vwCl [(h, .inr (0, [.long (lN o), .long (lN u)]))] H ∧ va_D A [(h, .inr (0, [.long (lN o), .long (lN u)]))] ∧ va_S A sZ.heap H locs ∧ (dd = Nat.gcd o u) ∧ (dd < 2147483648)) ?_ (fun cu43 => ?_)
  · intro st ls H locs hI
    obtain ⟨dd, rfl, hl, hP, hD, hS, hdd, hdb⟩ := hI
    refine lv_lload_n hx hb dX0_reduce_43 rfl (lv_at hl 0 rfl) ?_
    refine lv_lconst (v := lN 1) hx hb dX0_reduce_44 (by decide) ?_
    refine W.lcmp hx hb dX0_reduce_45 ?_
    refine ci_if_le (X := (if 1 < dd then (1 : Int) else if dd = 1 then 0 else -1)) (tgt := 69) hx hb (sg_cmp (by omega) (by omega)) dX0_reduce_46 rfl (fun h46 => ?_) (fun h46 => ?_)
    · exact W.vret hx hb hr (fun tZ ht hW => ⟨⟨(), rfl, trivial, by show va_P D vwCl _ tZ.heap; rw [ht, show Nat.gcd o u = 1 by omega, Nat.div_one, Nat.div_one]; exact hP⟩, hS.F ht⟩) hS.2.2 dX0_reduce_69
    · refine lv_aload_n hx hb dX0_reduce_49 rfl (lv_at hl 1 rfl) ?_
      refine lv_dup hx hb dX0_reduce_50 rfl ?_
      refine va_get (D := D) (ci := 0) (v := .long (lN o)) (C := RX0) (T := TX0) (N := 2) hx hb hts hinX0 hown hK.1 hP 0 rfl rfl 0 (by decide) (hts _ fl_X0_9) (fun _ h9 => h9) rfl dX0_reduce_51 ?_
      refine lv_lload_n hx hb dX0_reduce_54 rfl (lv_at hl 0 rfl) ?_
      refine n_ldiv hx hb dX0_reduce_55 (by omega) (by omega) (by omega) ?_
      refine va_put (D := D) (ci := 0) (v := .long (lN (o / dd))) (ty := .long) (C := RX0) (T := TX0) (N := 2) hx hb hts hinX0 tyX0 tyX0_ok nmX0 hown hK.1 hP hD hS 0 rfl rfl 0 (by decide) (hts _ fl_X0_9) (fun _ h9 => h9) rfl (by decide +kernel) rfl rfl (Nat.le_of_ble_eq_true rfl) dX0_reduce_56 (fun H locs hP hD hS => ?_)
      have hP : va_P D vwCl [(h, .inr (0, [.long (lN (o / dd)), .long (lN u)]))] H := hP
      have hD : va_D A [(h, .inr (0, [.long (lN (o / dd)), .long (lN u)]))] := hD
      refine lv_aload_n hx hb dX0_reduce_59 rfl (lv_at hl 1 rfl) ?_
      refine lv_dup hx hb dX0_reduce_60 rfl ?_
      refine va_get (D := D) (ci := 0) (v := .long (lN u)) (C := RX0) (T := TX0) (N := 2) hx hb hts hinX0 hown hK.1 hP 0 rfl rfl 1 (by decide) (hts _ fl_X0_17) (fun _ h9 => h9) rfl dX0_reduce_61 ?_
      refine lv_lload_n hx hb dX0_reduce_64 rfl (lv_at hl 0 rfl) ?_
      refine n_ldiv hx hb dX0_reduce_65 (by omega) (by omega) (by omega) ?_
      refine va_put (D := D) (ci := 0) (v := .long (lN (u / dd))) (ty := .long) (C := RX0) (T := TX0) (N := 2) hx hb hts hinX0 tyX0 tyX0_ok nmX0 hown hK.1 hP hD hS 0 rfl rfl 1 (by decide) (hts _ fl_X0_17) (fun _ h9 => h9) rfl (by decide +kernel) rfl rfl (Nat.le_of_ble_eq_true rfl) dX0_reduce_66 (fun H locs hP hD hS => ?_)
      have hP : va_P D vwCl [(h, .inr (0, [.long (lN (o / dd)), .long (lN (u / dd))]))] H := hP
      have hD : va_D A [(h, .inr (0, [.long (lN (o / dd)), .long (lN (u / dd))]))] := hD
      exact W.vret hx hb hr (fun tZ ht hW => ⟨⟨(), rfl, trivial, by subst hdd; show va_P D vwCl _ tZ.heap; rw [ht]; exact hP⟩, hS.F ht⟩) hS.2.2 dX0_reduce_69
  refine lv_iload hx hb dX0_reduce_13 (lv_at hl 0 rfl) ?_
  refine lv_sipush (v := nI 1000) hx hb dX0_reduce_15 (by decide) ?_
  refine ci_icmp_ge (X := ((t : Nat) : Int)) (Y := ((1000 : Nat) : Int)) (tgt := 43) hx hb (sg_n (by omega)) (sg_n (by omega)) dX0_reduce_18 rfl (fun h18 => ?_) (fun h18 => ?_)
  · exact cu43 _ _ _ _ ⟨d, rfl, lv_sub hl [2, 3] rfl, hP, hD, hS, by have hr0 : r = 0 := (by first | omega | (rw [show 1000 - t = 0 by omega] at hfu; exact hfu)); rw [← hg, hr0, Nat.gcd_zero_right], hd⟩
  · refine lv_lload_n hx hb dX0_reduce_21 rfl (lv_at hl 1 rfl) ?_
    refine lv_lconst (v := lN 0) hx hb dX0_reduce_22 (by decide) ?_
    refine W.lcmp hx hb dX0_reduce_23 ?_
    refine ci_if_eq (X := (if 0 < r then (1 : Int) else if r = 0 then 0 else -1)) (tgt := 43) hx hb (sg_cmp (by omega) (by omega)) dX0_reduce_24 rfl (fun h24 => ?_) (fun h24 => ?_)
    · exact cu43 _ _ _ _ ⟨d, rfl, lv_sub hl [2, 3] rfl, hP, hD, hS, by have hr0 : r = 0 := (by first | omega | (rw [show 1000 - t = 0 by omega] at hfu; exact hfu)); rw [← hg, hr0, Nat.gcd_zero_right], hd⟩
    · refine lv_lload_n hx hb dX0_reduce_27 rfl (lv_at hl 2 rfl) ?_
      refine lv_lload_n hx hb dX0_reduce_28 rfl (lv_at hl 1 rfl) ?_
      refine n_lrem hx hb dX0_reduce_29 (by omega) (by omega) (by omega) ?_
      refine lv_lstore hx hb dX0_reduce_30 hl (by decide) rfl (fun ls hl => ?_)
      have hl : lv_has ls 8 [(6, .long (lN (d % r))), (5, .int (nI t)), (3, .long (lN r)), (1, .long (lN d)), (0, .ref h)] := hl
      refine lv_lload_n hx hb dX0_reduce_32 rfl (lv_at hl 2 rfl) ?_
      refine lv_lstore_n hx hb dX0_reduce_33 rfl hl (by decide) rfl (fun ls hl => ?_)
      have hl : lv_has ls 8 [(1, .long (lN r)), (6, .long (lN (d % r))), (5, .int (nI t)), (3, .long (lN r)), (0, .ref h)] := hl
      refine lv_lload hx hb dX0_reduce_34 (lv_at hl 1 rfl) ?_
      refine lv_lstore_n hx hb dX0_reduce_36 rfl hl (by decide) rfl (fun ls hl => ?_)
      have hl : lv_has ls 8 [(3, .long (lN (d % r))), (1, .long (lN r)), (6, .long (lN (d % r))), (5, .int (nI t)), (0, .ref h)] := hl
      refine lv_iinc (v := nI (t + 1)) hx hb dX0_reduce_37 hl (k := 3) rfl (sg_inc _) (by decide) rfl (fun ls hl => ?_)
      have hl : lv_has ls 8 [(5, .int (nI (t + 1))), (3, .long (lN (d % r))), (1, .long (lN r)), (6, .long (lN (d % r))), (0, .ref h)] := hl
      refine lv_goto (tgt := 13) hx hb dX0_reduce_40 rfl ?_
      exact ih13 _ _ _ _ ⟨t + 1, r, d % r, rfl, lv_sub hl [0, 1, 2, 4] rfl, hP, hD, hS, by omega, by rw [Nat.gcd_comm r, ← Nat.gcd_rec, Nat.gcd_comm]; exact hg, by have h1 : 1000 - t = (1000 - (t + 1)) + 1 := (by omega); rw [h1] at hfu; exact (show r = 0 ∨ sgFu _ r (d % r) from hfu).resolve_left (by omega), hr2, Nat.lt_of_le_of_lt (Nat.mod_le _ _) hd⟩ (by omega)
set_option maxHeartbeats 4000000 in
set_option maxRecDepth 100000 in
theorem c_X0_smooth (l : Launch) (D : va_G) (cI cO : ClassId) (h : Nat) (o : Nat) (u : Nat) (q0 : Nat) (q1 : Nat) (q2 : Nat) (q3 : Nat) (ord : Nat) (f1 : Nat → Int32) (f2 : Nat → Int32) (f3 : Nat → Int32) (rw : Nat → Nat → Nat → Nat → Nat) (k : Nat) (a : Nat) (b : Nat) (w : Nat) (e : Nat) (hH : sgHold rw f1 f2 f3) (hF : sgFlat rw) (hB : sgBd rw) (ho : 1 ≤ ord ∧ ord ≤ 3) (hk : 1 ≤ k ∧ k ≤ 3) (ha : a < 7) (hbb : b < 7) (hw : w < 7) (he : 1 ≤ e ∧ e ≤ 8) : Met l yX0_smooth (.code yX0_smooth cX0_smooth 9 none :: sgT) ({ frames := 4, cells := 0, slots := 0, locals := 92 }) (sgWc D cI cO [.ref h, .ref q0, .int (nI k), .int (nI (sgCx k a b)), .int (nI w), .int (nI e)] [(h, .inr (0, [.long (lN o), .long (lN u)])), (q0, .inr (1, [.ref q1, .ref q2, .ref q3, .int (nI ord)])), (q1, .inl (cI, 7, .inl f1)), (q2, .inl (cI, 49, .inl f2)), (q3, .inl (cI, 343, .inl f3))]) (va_Qv (fun uZ : Unit => True) (fun uZ t => va_P D vwCl [(h, .inr (0, [.long (lN (sgS1 (sgTot rw ord k a b 6) (sgKin rw ord k a b 6) (sgC rw ord k a b w) e o u)), .long (lN (sgS2 (sgTot rw ord k a b 6) u))])), (q0, .inr (1, [.ref q1, .ref q2, .ref q3, .int (nI ord)])), (q1, .inl (cI, 7, .inl f1)), (q2, .inl (cI, 49, .inl f2)), (q3, .inl (cI, 343, .inl f3))] t.heap) (xA [(h, .inr (0, [.long (lN o), .long (lN u)])), (q0, .inr (1, [.ref q1, .ref q2, .ref q3, .int (nI ord)])), (q1, .inl (cI, 7, .inl f1)), (q2, .inl (cI, 49, .inl f2)), (q3, .inl (cI, 343, .inl f3))])) 0 0 (xA [(h, .inr (0, [.long (lN o), .long (lN u)])), (q0, .inr (1, [.ref q1, .ref q2, .ref q3, .int (nI ord)])), (q1, .inl (cI, 7, .inl f1)), (q2, .inl (cI, 49, .inl f2)), (q3, .inl (cI, 343, .inl f3))]) := by
  refine Met.ofW (cc := cX0_smooth) (maxL := 9) (ret := none) (by decide) rfl ?_
  intro pZ eZ sZ mZ argsZ belowZ methZ cZ s₁ BZ hml hv
  obtain ⟨rfl, hP, hK, hD0⟩ := hv
  have hx := BZ.exec
  have hb := BZ.bytes
  have hr := BZ.returns
  have hts : ∀ wZ ∈ sgT, wZ.before ([.ref h, .ref q0, .int (nI k), .int (nI (sgCx k a b)), .int (nI w), .int (nI e)] : List Value).toArray sZ = true := fun wZ h => atoms_spec (ws := (.code yX0_smooth cX0_smooth 9 none :: sgT)) BZ.pre wZ (List.mem_cons_of_mem _ h)
  have hown : sZ.vm.findClass RX0 = some mZ.cls := findClass_of_methodNamed BZ.named
  have hlocks := BZ.notSynchronized
  have hD : va_D (xA [(h, .inr (0, [.long (lN o), .long (lN u)])), (q0, .inr (1, [.ref q1, .ref q2, .ref q3, .int (nI ord)])), (q1, .inl (cI, 7, .inl f1)), (q2, .inl (cI, 49, .inl f2)), (q3, .inl (cI, 343, .inl f3))]) [(h, .inr (0, [.long (lN o), .long (lN u)])), (q0, .inr (1, [.ref q1, .ref q2, .ref q3, .int (nI ord)])), (q1, .inl (cI, 7, .inl f1)), (q2, .inl (cI, 49, .inl f2)), (q3, .inl (cI, 343, .inl f3))] := ⟨hD0.1, fun k q h => ⟨k, q.2, h⟩⟩
  generalize hAe : xA [(h, .inr (0, [.long (lN o), .long (lN u)])), (q0, .inr (1, [.ref q1, .ref q2, .ref q3, .int (nI ord)])), (q1, .inl (cI, 7, .inl f1)), (q2, .inl (cI, 49, .inl f2)), (q3, .inl (cI, 343, .inl f3))] = A at hD ⊢
  have hS : va_S A sZ.heap sZ.heap [] := va_S.rf
  have hl := lv_entry ([.ref h, .ref q0, .int (nI k), .int (nI (sgCx k a b)), .int (nI w), .int (nI e)]) (n := 9) (Nat.le_of_ble_eq_true rfl)
  rw [lg_entry_eq]
  generalize (lg_sl ([.ref h, .ref q0, .int (nI k), .int (nI (sgCx k a b)), .int (nI w), .int (nI e)]) ++ List.replicate (9 - (lg_sl ([.ref h, .ref q0, .int (nI k), .int (nI (sgCx k a b)), .int (nI w), .int (nI e)])).length) Slot.unset).toArray = ls at hl ⊢
  have hl : lv_has ls 9 [(0, .ref h), (1, .ref q0), (2, .int (nI k)), (3, .int (nI (sgCx k a b))), (4, .int (nI w)), (5, .int (nI e))] := hl
  have hT := sgTot_le hB ord k a b (Nat.le_refl 6)
  have hC := sgC_le hB ord k a b w
  have hKd := sgKin_le rw ord k a b 6
  have hEK : e * sgKin rw ord k a b 6 ≤ 8 * 6 := Nat.mul_le_mul he.2 hKd
  have hP : va_P D vwCl [(h, .inr (0, [.long (lN o), .long (lN u)])), (q0, .inr (1, [.ref q1, .ref q2, .ref q3, .int (nI ord)])), (q1, .inl (cI, 7, .inl f1)), (q2, .inl (cI, 49, .inl f2)), (q3, .inl (cI, 343, .inl f3))] sZ.heap := hP
  refine lv_aload_n hx hb dX0_smooth_0 rfl (lv_at hl 1 rfl) ?_
  refine lv_iload_n hx hb dX0_smooth_1 rfl (lv_at hl 2 rfl) ?_
  refine lv_iload_n hx hb dX0_smooth_2 rfl (lv_at hl 3 rfl) ?_
  refine sg_callRi (va_runV (As := [.int (nI k), .int (nI (sgCx k a b))]) (rest := []) (C := RX1) ⟨hx, hb, hml, hown, hts⟩ (c_X1_sumBehind l D cI cO q0 q1 q2 q3 ord f1 f2 f3 rw k a b hH hF hB (by omega) (by omega) (by omega) (by omega)) ⟨(sg_cB 2 hts mcX1_sumBehind ml_X0_37 in_X1 rfl rfl (by decide +kernel) ⟨Nat.le_of_ble_eq_true rfl, Nat.le_of_ble_eq_true rfl⟩), hts _ im_X1_sumBehind, hts _ se_X1_sumBehind⟩ (sg_pV (q0 := 1) hK hP [1, 2, 3, 4] rfl rfl rfl rfl) rfl rfl hl.1 rfl (lv_room (Nat.le_of_ble_eq_true rfl)) dX0_smooth_3 ⟨Nat.zero_le _, Nat.zero_le _⟩) ?_
  refine lv_istore hx hb dX0_smooth_6 hl (by decide) rfl (fun ls hl => ?_)
  have hl : lv_has ls 9 [(6, .int (nI (sgTot rw ord k a b 6))), (0, .ref h), (1, .ref q0), (2, .int (nI k)), (3, .int (nI (sgCx k a b))), (4, .int (nI w)), (5, .int (nI e))] := hl
  refine lv_iload hx hb dX0_smooth_8 (lv_at hl 0 rfl) ?_
  refine ci_if_ne (X := ((sgTot rw ord k a b 6 : Nat) : Int)) (tgt := 14) hx hb (sg_n (by omega)) dX0_smooth_10 rfl (fun h10 => ?_) (fun h10 => ?_)
  · refine lv_bipush (v := nI 8) hx hb dX0_smooth_14 (by decide) ?_
    refine lv_aload_n hx hb dX0_smooth_16 rfl (lv_at hl 2 rfl) ?_
    refine lv_iload_n hx hb dX0_smooth_17 rfl (lv_at hl 3 rfl) ?_
    refine lv_iload_n hx hb dX0_smooth_18 rfl (lv_at hl 4 rfl) ?_
    refine lv_bipush (v := nI 7) hx hb dX0_smooth_19 (by decide) ?_
    refine n_imul hx hb dX0_smooth_21 ?_
    refine lv_iload hx hb dX0_smooth_22 (lv_at hl 5 rfl) ?_
    refine n_iadd hx hb dX0_smooth_24 ?_
    refine sg_callRi (va_runV (As := [.int (nI k), .int (nI (((sgCx k a b) * 7) + w))]) (rest := [.int (nI 8)]) (C := RX1) ⟨hx, hb, hml, hown, hts⟩ (c_X1_ofRow l D cI cO q0 q1 q2 q3 ord f1 f2 f3 rw k (((sgCx k a b) * 7) + w) hH hB (by omega) (by omega) (sgCx_lt hk.1 hk.2 ha hbb (by omega))) ⟨(sg_cB 2 hts mcX1_ofRow ml_X0_41 in_X1 rfl rfl (by decide +kernel) ⟨Nat.le_of_ble_eq_true rfl, Nat.le_of_ble_eq_true rfl⟩), hts _ im_X1_ofRow, hts _ se_X1_ofRow⟩ (sg_pV (q0 := 1) hK hP [1, 2, 3, 4] rfl rfl rfl rfl) rfl rfl hl.1 rfl (lv_room (Nat.le_of_ble_eq_true rfl)) dX0_smooth_25 ⟨Nat.zero_le _, Nat.zero_le _⟩) ?_
    refine sw_i (y := nI (sgC rw ord k a b w)) (congrArg nI (sgCg_cx hF ord hk.1 hk.2 ho.2 ha hbb (by omega))) ?_
    refine n_imul hx hb dX0_smooth_28 ?_
    refine lv_iload hx hb dX0_smooth_29 (lv_at hl 6 rfl) ?_
    refine lv_isub hx hb dX0_smooth_31 ?_
    refine lv_iconst (v := nI 0) hx hb dX0_smooth_32 (by decide) ?_
    refine va_mmax hx hb (hml.trans hl.1.symm) hown (hts _ ml_X0_44) (hts _ st_J9_max) (hts _ in_J9) (hts _ mcJ9_max) (Nat.le_of_ble_eq_true rfl) (Nat.le_of_ble_eq_true rfl) (Nat.zero_le _) (Nat.zero_le _) dX0_smooth_33 ?_
    refine sw_i (y := nI (8 * sgC rw ord k a b w - e)) (sg_max (by omega) (by omega)) ?_
    refine lv_istore hx hb dX0_smooth_36 hl (by decide) rfl (fun ls hl => ?_)
    have hl : lv_has ls 9 [(7, .int (nI (8 * sgC rw ord k a b w - e))), (6, .int (nI (sgTot rw ord k a b 6))), (0, .ref h), (1, .ref q0), (2, .int (nI k)), (3, .int (nI (sgCx k a b))), (4, .int (nI w)), (5, .int (nI e))] := hl
    refine lv_iload hx hb dX0_smooth_38 (lv_at hl 7 rfl) ?_
    refine lv_aload_n hx hb dX0_smooth_40 rfl (lv_at hl 3 rfl) ?_
    refine lv_iload_n hx hb dX0_smooth_41 rfl (lv_at hl 4 rfl) ?_
    refine lv_iload_n hx hb dX0_smooth_42 rfl (lv_at hl 5 rfl) ?_
    refine sg_callRi (va_runV (As := [.int (nI k), .int (nI (sgCx k a b))]) (rest := [.int (nI e)]) (C := RX1) ⟨hx, hb, hml, hown, hts⟩ (c_X1_kindsBehind l D cI cO q0 q1 q2 q3 ord f1 f2 f3 rw k a b hH hF hB (by omega) (by omega) (by omega) (by omega)) ⟨(sg_cB 2 hts mcX1_kindsBehind ml_X0_49 in_X1 rfl rfl (by decide +kernel) ⟨Nat.le_of_ble_eq_true rfl, Nat.le_of_ble_eq_true rfl⟩), hts _ im_X1_kindsBehind, hts _ se_X1_kindsBehind⟩ (sg_pV (q0 := 1) hK hP [1, 2, 3, 4] rfl rfl rfl rfl) rfl rfl hl.1 rfl (lv_room (Nat.le_of_ble_eq_true rfl)) dX0_smooth_43 ⟨Nat.zero_le _, Nat.zero_le _⟩) ?_
    refine n_imul hx hb dX0_smooth_46 ?_
    refine lv_istore hx hb dX0_smooth_47 hl (by decide) rfl (fun ls hl => ?_)
    have hl : lv_has ls 9 [(8, .int (nI (e * (sgKin rw ord k a b 6)))), (7, .int (nI (8 * sgC rw ord k a b w - e))), (6, .int (nI (sgTot rw ord k a b 6))), (0, .ref h), (1, .ref q0), (2, .int (nI k)), (3, .int (nI (sgCx k a b))), (4, .int (nI w)), (5, .int (nI e))] := hl
    refine lv_aload_n hx hb dX0_smooth_49 rfl (lv_at hl 3 rfl) ?_
    refine lv_iload hx hb dX0_smooth_50 (lv_at hl 1 rfl) ?_
    refine n_i2l hx hb (by omega) dX0_smooth_52 ?_
    refine lv_aload_n hx hb dX0_smooth_53 rfl (lv_at hl 3 rfl) ?_
    refine va_get (D := D) (ci := 0) (v := .long (lN u)) (C := RX0) (T := TX0) (N := 2) hx hb hts hinX0 hown hK.1 hP 0 rfl rfl 1 (by decide) (hts _ fl_X0_17) (fun _ h9 => h9) rfl dX0_smooth_54 ?_
    refine n_lmul hx hb dX0_smooth_57 ?_
    refine lv_iload hx hb dX0_smooth_58 (lv_at hl 0 rfl) ?_
    refine n_i2l hx hb (by omega) dX0_smooth_60 ?_
    refine lv_aload_n hx hb dX0_smooth_61 rfl (lv_at hl 3 rfl) ?_
    refine va_get (D := D) (ci := 0) (v := .long (lN o)) (C := RX0) (T := TX0) (N := 2) hx hb hts hinX0 hown hK.1 hP 0 rfl rfl 0 (by decide) (hts _ fl_X0_9) (fun _ h9 => h9) rfl dX0_smooth_62 ?_
    refine n_lmul hx hb dX0_smooth_65 ?_
    refine n_ladd hx hb dX0_smooth_66 ?_
    refine va_put (D := D) (ci := 0) (v := .long (lN (((8 * sgC rw ord k a b w - e) * u) + ((e * (sgKin rw ord k a b 6)) * o)))) (ty := .long) (C := RX0) (T := TX0) (N := 2) hx hb hts hinX0 tyX0 tyX0_ok nmX0 hown hK.1 hP hD hS 0 rfl rfl 0 (by decide) (hts _ fl_X0_9) (fun _ h9 => h9) rfl (by decide +kernel) rfl rfl (Nat.le_of_ble_eq_true rfl) dX0_smooth_67 (fun H locs hP hD hS => ?_)
    have hP : va_P D vwCl [(h, .inr (0, [.long (lN (((8 * sgC rw ord k a b w - e) * u) + ((e * (sgKin rw ord k a b 6)) * o))), .long (lN u)])), (q0, .inr (1, [.ref q1, .ref q2, .ref q3, .int (nI ord)])), (q1, .inl (cI, 7, .inl f1)), (q2, .inl (cI, 49, .inl f2)), (q3, .inl (cI, 343, .inl f3))] H := hP
    have hD : va_D A [(h, .inr (0, [.long (lN (((8 * sgC rw ord k a b w - e) * u) + ((e * (sgKin rw ord k a b 6)) * o))), .long (lN u)])), (q0, .inr (1, [.ref q1, .ref q2, .ref q3, .int (nI ord)])), (q1, .inl (cI, 7, .inl f1)), (q2, .inl (cI, 49, .inl f2)), (q3, .inl (cI, 343, .inl f3))] := hD
    refine lv_aload_n hx hb dX0_smooth_70 rfl (lv_at hl 3 rfl) ?_
    refine lv_bipush (v := nI 8) hx hb dX0_smooth_71 (by decide) ?_
    refine lv_iload hx hb dX0_smooth_73 (lv_at hl 2 rfl) ?_
    refine n_imul hx hb dX0_smooth_75 ?_
    refine n_i2l hx hb (by omega) dX0_smooth_76 ?_
    refine lv_aload_n hx hb dX0_smooth_77 rfl (lv_at hl 3 rfl) ?_
    refine va_get (D := D) (ci := 0) (v := .long (lN u)) (C := RX0) (T := TX0) (N := 2) hx hb hts hinX0 hown hK.1 hP 0 rfl rfl 1 (by decide) (hts _ fl_X0_17) (fun _ h9 => h9) rfl dX0_smooth_78 ?_
    refine n_lmul hx hb dX0_smooth_81 ?_
    refine va_put (D := D) (ci := 0) (v := .long (lN ((8 * (sgTot rw ord k a b 6)) * u))) (ty := .long) (C := RX0) (T := TX0) (N := 2) hx hb hts hinX0 tyX0 tyX0_ok nmX0 hown hK.1 hP hD hS 0 rfl rfl 1 (by decide) (hts _ fl_X0_17) (fun _ h9 => h9) rfl (by decide +kernel) rfl rfl (Nat.le_of_ble_eq_true rfl) dX0_smooth_82 (fun H locs hP hD hS => ?_)
    have hP : va_P D vwCl [(h, .inr (0, [.long (lN (((8 * sgC rw ord k a b w - e) * u) + ((e * (sgKin rw ord k a b 6)) * o))), .long (lN ((8 * (sgTot rw ord k a b 6)) * u))])), (q0, .inr (1, [.ref q1, .ref q2, .ref q3, .int (nI ord)])), (q1, .inl (cI, 7, .inl f1)), (q2, .inl (cI, 49, .inl f2)), (q3, .inl (cI, 343, .inl f3))] H := hP
    have hD : va_D A [(h, .inr (0, [.long (lN (((8 * sgC rw ord k a b w - e) * u) + ((e * (sgKin rw ord k a b 6)) * o))), .long (lN ((8 * (sgTot rw ord k a b 6)) * u))])), (q0, .inr (1, [.ref q1, .ref q2, .ref q3, .int (nI ord)])), (q1, .inl (cI, 7, .inl f1)), (q2, .inl (cI, 49, .inl f2)), (q3, .inl (cI, 343, .inl f3))] := hD
    exact W.vret hx hb hr (fun tZ ht hW => ⟨⟨(), rfl, trivial, by show va_P D vwCl _ tZ.heap; rw [ht]; unfold sgS1 sgS2; rw [if_neg (by omega), if_neg (by omega)]; exact hP⟩, hS.F ht⟩) hS.2.2 dX0_smooth_85
  · exact W.vret hx hb hr (fun tZ ht hW => ⟨⟨(), rfl, trivial, by show va_P D vwCl _ tZ.heap; rw [ht]; unfold sgS1 sgS2; rw [if_pos (by omega), if_pos (by omega)]; exact hP⟩, hS.F ht⟩) hS.2.2 dX0_smooth_13
set_option maxHeartbeats 4000000 in
set_option maxRecDepth 100000 in
theorem c_X0_find (l : Launch) (D : va_G) (cI cO : ClassId) (h : Nat) (x0 : Int64) (x1 : Int64) (q0 : Nat) (q1 : Nat) (q2 : Nat) (q3 : Nat) (ord : Nat) (f1 : Nat → Int32) (f2 : Nat → Int32) (f3 : Nat → Int32) (qe : Nat) (fe : Nat → Int32) (rw : Nat → Nat → Nat → Nat → Nat) (e : Nat → Nat) (a : Nat) (b : Nat) (w : Nat) (hH : sgHold rw f1 f2 f3) (hF : sgFlat rw) (hB : sgBd rw) (ho : 1 ≤ ord ∧ ord ≤ 3) (hE : sgE e) (hfe : ∀ k, 1 ≤ k → k ≤ 3 → fe k = nI (e k)) (ha : a < 7) (hbb : b < 7) (hw : w < 7) : Met l yX0_find (.code yX0_find cX0_find 7 none :: sgT) ({ frames := 5, cells := 0, slots := 0, locals := 120 }) (sgWc D cI cO [.ref h, .ref q0, .ref qe, .int (nI a), .int (nI b), .int (nI w)] [(h, .inr (0, [.long x0, .long x1])), (q0, .inr (1, [.ref q1, .ref q2, .ref q3, .int (nI ord)])), (q1, .inl (cI, 7, .inl f1)), (q2, .inl (cI, 49, .inl f2)), (q3, .inl (cI, 343, .inl f3)), (qe, .inl (cI, 4, .inl fe))]) (va_Qv (fun uZ : Unit => True) (fun uZ t => va_P D vwCl [(h, .inr (0, [.long (lN (sgO rw ord e a b w)), .long (lN (sgU rw ord e a b w))])), (q0, .inr (1, [.ref q1, .ref q2, .ref q3, .int (nI ord)])), (q1, .inl (cI, 7, .inl f1)), (q2, .inl (cI, 49, .inl f2)), (q3, .inl (cI, 343, .inl f3)), (qe, .inl (cI, 4, .inl fe))] t.heap) (xA [(h, .inr (0, [.long x0, .long x1])), (q0, .inr (1, [.ref q1, .ref q2, .ref q3, .int (nI ord)])), (q1, .inl (cI, 7, .inl f1)), (q2, .inl (cI, 49, .inl f2)), (q3, .inl (cI, 343, .inl f3)), (qe, .inl (cI, 4, .inl fe))])) 0 0 (xA [(h, .inr (0, [.long x0, .long x1])), (q0, .inr (1, [.ref q1, .ref q2, .ref q3, .int (nI ord)])), (q1, .inl (cI, 7, .inl f1)), (q2, .inl (cI, 49, .inl f2)), (q3, .inl (cI, 343, .inl f3)), (qe, .inl (cI, 4, .inl fe))]) := by
  refine Met.ofW (cc := cX0_find) (maxL := 7) (ret := none) (by decide) rfl ?_
  intro pZ eZ sZ mZ argsZ belowZ methZ cZ s₁ BZ hml hv
  obtain ⟨rfl, hP, hK, hD0⟩ := hv
  have hx := BZ.exec
  have hb := BZ.bytes
  have hr := BZ.returns
  have hts : ∀ wZ ∈ sgT, wZ.before ([.ref h, .ref q0, .ref qe, .int (nI a), .int (nI b), .int (nI w)] : List Value).toArray sZ = true := fun wZ h => atoms_spec (ws := (.code yX0_find cX0_find 7 none :: sgT)) BZ.pre wZ (List.mem_cons_of_mem _ h)
  have hown : sZ.vm.findClass RX0 = some mZ.cls := findClass_of_methodNamed BZ.named
  have hlocks := BZ.notSynchronized
  have hD : va_D (xA [(h, .inr (0, [.long x0, .long x1])), (q0, .inr (1, [.ref q1, .ref q2, .ref q3, .int (nI ord)])), (q1, .inl (cI, 7, .inl f1)), (q2, .inl (cI, 49, .inl f2)), (q3, .inl (cI, 343, .inl f3)), (qe, .inl (cI, 4, .inl fe))]) [(h, .inr (0, [.long x0, .long x1])), (q0, .inr (1, [.ref q1, .ref q2, .ref q3, .int (nI ord)])), (q1, .inl (cI, 7, .inl f1)), (q2, .inl (cI, 49, .inl f2)), (q3, .inl (cI, 343, .inl f3)), (qe, .inl (cI, 4, .inl fe))] := ⟨hD0.1, fun k q h => ⟨k, q.2, h⟩⟩
  generalize hAe : xA [(h, .inr (0, [.long x0, .long x1])), (q0, .inr (1, [.ref q1, .ref q2, .ref q3, .int (nI ord)])), (q1, .inl (cI, 7, .inl f1)), (q2, .inl (cI, 49, .inl f2)), (q3, .inl (cI, 343, .inl f3)), (qe, .inl (cI, 4, .inl fe))] = A at hD ⊢
  have hS : va_S A sZ.heap sZ.heap [] := va_S.rf
  have hl := lv_entry ([.ref h, .ref q0, .ref qe, .int (nI a), .int (nI b), .int (nI w)]) (n := 7) (Nat.le_of_ble_eq_true rfl)
  rw [lg_entry_eq]
  generalize (lg_sl ([.ref h, .ref q0, .ref qe, .int (nI a), .int (nI b), .int (nI w)]) ++ List.replicate (7 - (lg_sl ([.ref h, .ref q0, .ref qe, .int (nI a), .int (nI b), .int (nI w)])).length) Slot.unset).toArray = ls at hl ⊢
  have hl : lv_has ls 7 [(0, .ref h), (1, .ref q0), (2, .ref qe), (3, .int (nI a)), (4, .int (nI b)), (5, .int (nI w))] := hl
  have hP : va_P D vwCl [(h, .inr (0, [.long x0, .long x1])), (q0, .inr (1, [.ref q1, .ref q2, .ref q3, .int (nI ord)])), (q1, .inl (cI, 7, .inl f1)), (q2, .inl (cI, 49, .inl f2)), (q3, .inl (cI, 343, .inl f3)), (qe, .inl (cI, 4, .inl fe))] sZ.heap := hP
  refine lv_aload_n hx hb dX0_find_0 rfl (lv_at hl 0 rfl) ?_
  refine lv_lconst (v := lN 1) hx hb dX0_find_1 (by decide) ?_
  refine va_put (D := D) (ci := 0) (v := .long (lN 1)) (ty := .long) (C := RX0) (T := TX0) (N := 2) hx hb hts hinX0 tyX0 tyX0_ok nmX0 hown hK.1 hP hD hS 0 rfl rfl 0 (by decide) (hts _ fl_X0_9) (fun _ h9 => h9) rfl (by decide +kernel) rfl rfl (Nat.le_of_ble_eq_true rfl) dX0_find_2 (fun H locs hP hD hS => ?_)
  have hP : va_P D vwCl [(h, .inr (0, [.long (lN 1), .long x1])), (q0, .inr (1, [.ref q1, .ref q2, .ref q3, .int (nI ord)])), (q1, .inl (cI, 7, .inl f1)), (q2, .inl (cI, 49, .inl f2)), (q3, .inl (cI, 343, .inl f3)), (qe, .inl (cI, 4, .inl fe))] H := hP
  have hD : va_D A [(h, .inr (0, [.long (lN 1), .long x1])), (q0, .inr (1, [.ref q1, .ref q2, .ref q3, .int (nI ord)])), (q1, .inl (cI, 7, .inl f1)), (q2, .inl (cI, 49, .inl f2)), (q3, .inl (cI, 343, .inl f3)), (qe, .inl (cI, 4, .inl fe))] := hD
  refine lv_aload_n hx hb dX0_find_5 rfl (lv_at hl 0 rfl) ?_
  refine lv_ldc2 (v := lN 6) hx hb hown (hts _ kl_X0_15) dX0_find_6 ?_
  refine va_put (D := D) (ci := 0) (v := .long (lN 6)) (ty := .long) (C := RX0) (T := TX0) (N := 2) hx hb hts hinX0 tyX0 tyX0_ok nmX0 hown hK.1 hP hD hS 0 rfl rfl 1 (by decide) (hts _ fl_X0_17) (fun _ h9 => h9) rfl (by decide +kernel) rfl rfl (Nat.le_of_ble_eq_true rfl) dX0_find_9 (fun H locs hP hD hS => ?_)
  have hP : va_P D vwCl [(h, .inr (0, [.long (lN 1), .long (lN 6)])), (q0, .inr (1, [.ref q1, .ref q2, .ref q3, .int (nI ord)])), (q1, .inl (cI, 7, .inl f1)), (q2, .inl (cI, 49, .inl f2)), (q3, .inl (cI, 343, .inl f3)), (qe, .inl (cI, 4, .inl fe))] H := hP
  have hD : va_D A [(h, .inr (0, [.long (lN 1), .long (lN 6)])), (q0, .inr (1, [.ref q1, .ref q2, .ref q3, .int (nI ord)])), (q1, .inl (cI, 7, .inl f1)), (q2, .inl (cI, 49, .inl f2)), (q3, .inl (cI, 343, .inl f3)), (qe, .inl (cI, 4, .inl fe))] := hD
  refine lv_iconst (v := nI 1) hx hb dX0_find_12 (by decide) ?_
  refine lv_istore hx hb dX0_find_13 hl (by decide) rfl (fun ls hl => ?_)
  have hl : lv_has ls 7 [(6, .int (nI 1)), (0, .ref h), (1, .ref q0), (2, .ref qe), (3, .int (nI a)), (4, .int (nI b)), (5, .int (nI w))] := hl
  refine sw_loop (I := fun kM ls H locs => ∃ (t : Nat), kM = ord - t ∧ lv_has ls 7 [(6, .int (nI (t + 1))), (0, .ref h), (1, .ref q0), (2, .ref qe), (3, .int (nI a)), (4, .int (nI b)), (5, .int (nI w))] ∧ va_P D vwCl [(h, .inr (0, [.long (lN ((sgOUw rw ord e a b w t).1)), .long (lN ((sgOUw rw ord e a b w t).2))])), (q0, .inr (1, [.ref q1, .ref q2, .ref q3, .int (nI ord)])), (q1, .inl (cI, 7, .inl f1)), (q2, .inl (cI, 49, .inl f2)), (q3, .inl (cI, 343, .inl f3)), (qe, .inl (cI, 4, .inl fe))] H ∧ va_D A [(h, .inr (0, [.long (lN ((sgOUw rw ord e a b w t).1)), .long (lN ((sgOUw rw ord e a b w t).2))])), (q0, .inr (1, [.ref q1, .ref q2, .ref q3, .int (nI ord)])), (q1, .inl (cI, 7, .inl f1)), (q2, .inl (cI, 49, .inl f2)), (q3, .inl (cI, 343, .inl f3)), (qe, .inl (cI, 4, .inl fe))] ∧ va_S A sZ.heap H locs ∧ (t ≤ ord)) ?_ _ ⟨0, rfl, hl, hP, hD, hS, by omega⟩
  intro kM ls H locs hI ih15
  obtain ⟨t, hkM, hl, hP, hD, hS, hi⟩ := hI
  refine lv_iload hx hb dX0_find_15 (lv_at hl 0 rfl) ?_
  refine lv_aload_n hx hb dX0_find_17 rfl (lv_at hl 2 rfl) ?_
  refine va_get (D := D) (ci := 1) (v := .int (nI ord)) (C := RX1) (T := TX1) (N := 4) hx hb hts hinX1 hown hK.1 hP 1 rfl rfl 3 (by decide) (hts _ fl_X0_20) (fun _ h9 => h9) rfl dX0_find_18 ?_
  refine ci_icmp_gt (X := ((t + 1 : Nat) : Int)) (Y := ((ord : Nat) : Int)) (tgt := 51) hx hb (sg_n (by omega)) (sg_n (by omega)) dX0_find_21 rfl (fun h21 => ?_) (fun h21 => ?_)
  · have hto : t = ord := by omega
    rw [hto] at hP hD
    have hP : va_P D vwCl [(h, .inr (0, [.long (lN ((sgOUw rw ord e a b w ord).1)), .long (lN ((sgOUw rw ord e a b w ord).2))])), (q0, .inr (1, [.ref q1, .ref q2, .ref q3, .int (nI ord)])), (q1, .inl (cI, 7, .inl f1)), (q2, .inl (cI, 49, .inl f2)), (q3, .inl (cI, 343, .inl f3)), (qe, .inl (cI, 4, .inl fe))] H := hP
    have hD : va_D A [(h, .inr (0, [.long (lN ((sgOUw rw ord e a b w ord).1)), .long (lN ((sgOUw rw ord e a b w ord).2))])), (q0, .inr (1, [.ref q1, .ref q2, .ref q3, .int (nI ord)])), (q1, .inl (cI, 7, .inl f1)), (q2, .inl (cI, 49, .inl f2)), (q3, .inl (cI, 343, .inl f3)), (qe, .inl (cI, 4, .inl fe))] := hD
    have hlv := sgLv_of hB ord a b w hE
    have hpo := sgOU_pos hlv ord ho.2
    have hlt := sgOU_lt hlv ord ho.2
    refine lv_aload_n hx hb dX0_find_51 rfl (lv_at hl 1 rfl) ?_
    refine sg_callWv (fun _ => [(h, .inr (0, [.long (lN (((sgOUw rw ord e a b w ord).1) / Nat.gcd ((sgOUw rw ord e a b w ord).1) ((sgOUw rw ord e a b w ord).2))), .long (lN (((sgOUw rw ord e a b w ord).2) / Nat.gcd ((sgOUw rw ord e a b w ord).1) ((sgOUw rw ord e a b w ord).2)))])), (q0, .inr (1, [.ref q1, .ref q2, .ref q3, .int (nI ord)])), (q1, .inl (cI, 7, .inl f1)), (q2, .inl (cI, 49, .inl f2)), (q3, .inl (cI, 343, .inl f3)), (qe, .inl (cI, 4, .inl fe))]) [(true, 0), (false, 1), (false, 2), (false, 3), (false, 4), (false, 5)] (va_runV (As := []) (rest := []) (C := RX0) ⟨hx, hb, hml, hown, hts⟩ (c_X0_reduce l D cI cO h ((sgOUw rw ord e a b w ord).1) ((sgOUw rw ord e a b w ord).2) hlt.1 hlt.2 hpo.2) ⟨(sg_cB 0 hts mcX0_reduce ml_X0_34 in_X0 rfl rfl (by decide +kernel) ⟨Nat.le_of_ble_eq_true rfl, Nat.le_of_ble_eq_true rfl⟩), hts _ im_X0_reduce, hts _ se_X0_reduce⟩ (sg_wV (q0 := 0) hK hP hD [0] (by decide) rfl rfl rfl rfl) rfl rfl hl.1 rfl (lv_room (Nat.le_of_ble_eq_true rfl)) dX0_find_52 ⟨Nat.zero_le _, Nat.zero_le _⟩) hP hD hS [0] rfl (fun _ => rfl) (by decide) (fun _ => rfl) (fun u52 H locs hw52 hP hD hS => ?_)
    exact W.vret hx hb hr (fun tZ ht hW => ⟨⟨(), rfl, trivial, by show va_P D vwCl _ tZ.heap; rw [ht]; exact hP⟩, hS.F ht⟩) hS.2.2 dX0_find_55
  · refine lv_aload_n hx hb dX0_find_24 rfl (lv_at hl 1 rfl) ?_
    refine lv_aload_n hx hb dX0_find_25 rfl (lv_at hl 2 rfl) ?_
    refine lv_iload hx hb dX0_find_26 (lv_at hl 0 rfl) ?_
    refine lv_iload hx hb dX0_find_28 (lv_at hl 0 rfl) ?_
    refine lv_iload_n hx hb dX0_find_30 rfl (lv_at hl 4 rfl) ?_
    refine lv_iload hx hb dX0_find_31 (lv_at hl 5 rfl) ?_
    refine sg_callRi (va_runSN (As := [.int (nI (t + 1)), .int (nI a), .int (nI b)]) (rest := [.int (nI (t + 1)), .ref q0, .ref h]) ⟨hx, hb, hml, hown, hts⟩ (c_X5_contextOf l D cI cO (t + 1) (nI a) (nI b) a b (by omega) (fun _ => rfl) (fun _ => rfl)) ⟨(sg_cN 3 hts mcX5_contextOf hK.2.2.1.2.2 in_X5 rfl rfl (by decide +kernel) ⟨Nat.le_of_ble_eq_true rfl, Nat.le_of_ble_eq_true rfl⟩), hts _ st_X5_contextOf, trivial⟩ (sg_pS hK hP [] rfl) rfl rfl hl.1 rfl (lv_room (Nat.le_of_ble_eq_true rfl)) dX0_find_33 ⟨Nat.zero_le _, Nat.zero_le _⟩) ?_
    refine lv_iload hx hb dX0_find_36 (lv_at hl 6 rfl) ?_
    refine lv_aload_n hx hb dX0_find_38 rfl (lv_at hl 3 rfl) ?_
    refine lv_iload hx hb dX0_find_39 (lv_at hl 0 rfl) ?_
    refine n_iald (v := nI (e (t + 1))) hx hb hK.1 hP 5 0 rfl rfl (by omega) (by omega) (hfe _ (by omega) (by omega)) dX0_find_41 ?_
    refine sg_callWv (fun _ => [(h, .inr (0, [.long (lN (sgS1 (sgTot rw ord (t + 1) a b 6) (sgKin rw ord (t + 1) a b 6) (sgC rw ord (t + 1) a b w) (e (t + 1)) ((sgOUw rw ord e a b w t).1) ((sgOUw rw ord e a b w t).2))), .long (lN (sgS2 (sgTot rw ord (t + 1) a b 6) ((sgOUw rw ord e a b w t).2)))])), (q0, .inr (1, [.ref q1, .ref q2, .ref q3, .int (nI ord)])), (q1, .inl (cI, 7, .inl f1)), (q2, .inl (cI, 49, .inl f2)), (q3, .inl (cI, 343, .inl f3)), (qe, .inl (cI, 4, .inl fe))]) [(true, 0), (true, 1), (true, 2), (true, 3), (true, 4), (false, 5)] (va_runV (As := [.ref q0, .int (nI (t + 1)), .int (nI (sgCx (t + 1) a b)), .int (nI w), .int (nI (e (t + 1)))]) (rest := []) (C := RX0) ⟨hx, hb, hml, hown, hts⟩ (c_X0_smooth l D cI cO h ((sgOUw rw ord e a b w t).1) ((sgOUw rw ord e a b w t).2) q0 q1 q2 q3 ord f1 f2 f3 rw (t + 1) a b w (e (t + 1)) hH hF hB (by omega) (by omega) (by omega) (by omega) (by omega) (hE _ (by omega) (by omega))) ⟨(sg_cB 5 hts mcX0_smooth ml_X0_30 in_X0 rfl rfl (by decide +kernel) ⟨Nat.le_of_ble_eq_true rfl, Nat.le_of_ble_eq_true rfl⟩), hts _ im_X0_smooth, hts _ se_X0_smooth⟩ (sg_wV (q0 := 0) hK hP hD [0, 1, 2, 3, 4] (by decide) rfl rfl rfl rfl) rfl rfl hl.1 rfl (lv_room (Nat.le_of_ble_eq_true rfl)) dX0_find_42 ⟨Nat.zero_le _, Nat.zero_le _⟩) hP hD hS [0, 1, 2, 3, 4] rfl (fun _ => rfl) (by decide) (fun _ => rfl) (fun u42 H locs hw42 hP hD hS => ?_)
    rw [← sgOUw_1, ← sgOUw_2] at hP hD
    have hP : va_P D vwCl [(h, .inr (0, [.long (lN ((sgOUw rw ord e a b w (t + 1)).1)), .long (lN ((sgOUw rw ord e a b w (t + 1)).2))])), (q0, .inr (1, [.ref q1, .ref q2, .ref q3, .int (nI ord)])), (q1, .inl (cI, 7, .inl f1)), (q2, .inl (cI, 49, .inl f2)), (q3, .inl (cI, 343, .inl f3)), (qe, .inl (cI, 4, .inl fe))] H := hP
    have hD : va_D A [(h, .inr (0, [.long (lN ((sgOUw rw ord e a b w (t + 1)).1)), .long (lN ((sgOUw rw ord e a b w (t + 1)).2))])), (q0, .inr (1, [.ref q1, .ref q2, .ref q3, .int (nI ord)])), (q1, .inl (cI, 7, .inl f1)), (q2, .inl (cI, 49, .inl f2)), (q3, .inl (cI, 343, .inl f3)), (qe, .inl (cI, 4, .inl fe))] := hD
    refine lv_iinc (v := nI ((t + 1) + 1)) hx hb dX0_find_45 hl (k := 0) rfl (sg_inc _) (by decide) rfl (fun ls hl => ?_)
    have hl : lv_has ls 7 [(6, .int (nI ((t + 1) + 1))), (0, .ref h), (1, .ref q0), (2, .ref qe), (3, .int (nI a)), (4, .int (nI b)), (5, .int (nI w))] := hl
    refine lv_goto (tgt := 15) hx hb dX0_find_48 rfl ?_
    exact ih15 _ _ _ _ ⟨t + 1, rfl, lv_sub hl [0, 1, 2, 3, 4, 5, 6] rfl, hP, hD, hS, by omega⟩ (by omega)
set_option maxHeartbeats 4000000 in
set_option maxRecDepth 100000 in
theorem c_X3_setOne (l : Launch) (D : va_G) (cI cO : ClassId) (s : Nat) (no : Nat) (pno : Nat) (nu : Nat) (pnu : Nat) (f : Nat → Int32) (g : Nat → Int32)  : Met l yX3_setOne (.code yX3_setOne cX3_setOne 1 none :: sgT) ({ frames := 1, cells := 0, slots := 0, locals := 21 }) (sgWc D cI cO [.ref s] [(s, .inr (3, [.ref no, .ref nu])), (no, .inr (2, [.ref pno])), (pno, .inl (cI, 9, .inl f)), (nu, .inr (2, [.ref pnu])), (pnu, .inl (cI, 9, .inl g))]) (va_Qv (fun uZ : Unit => True) (fun uZ t => va_P D vwCl [(s, .inr (3, [.ref no, .ref nu])), (no, .inr (2, [.ref pno])), (pno, .inl (cI, 9, .inl (dF 1))), (nu, .inr (2, [.ref pnu])), (pnu, .inl (cI, 9, .inl (dF 1)))] t.heap) (xA [(s, .inr (3, [.ref no, .ref nu])), (no, .inr (2, [.ref pno])), (pno, .inl (cI, 9, .inl f)), (nu, .inr (2, [.ref pnu])), (pnu, .inl (cI, 9, .inl g))])) 0 0 (xA [(s, .inr (3, [.ref no, .ref nu])), (no, .inr (2, [.ref pno])), (pno, .inl (cI, 9, .inl f)), (nu, .inr (2, [.ref pnu])), (pnu, .inl (cI, 9, .inl g))]) := by
  refine Met.ofW (cc := cX3_setOne) (maxL := 1) (ret := none) (by decide) rfl ?_
  intro pZ eZ sZ mZ argsZ belowZ methZ cZ s₁ BZ hml hv
  obtain ⟨rfl, hP, hK, hD0⟩ := hv
  have hx := BZ.exec
  have hb := BZ.bytes
  have hr := BZ.returns
  have hts : ∀ wZ ∈ sgT, wZ.before ([.ref s] : List Value).toArray sZ = true := fun wZ h => atoms_spec (ws := (.code yX3_setOne cX3_setOne 1 none :: sgT)) BZ.pre wZ (List.mem_cons_of_mem _ h)
  have hown : sZ.vm.findClass RX3 = some mZ.cls := findClass_of_methodNamed BZ.named
  have hlocks := BZ.notSynchronized
  have hD : va_D (xA [(s, .inr (3, [.ref no, .ref nu])), (no, .inr (2, [.ref pno])), (pno, .inl (cI, 9, .inl f)), (nu, .inr (2, [.ref pnu])), (pnu, .inl (cI, 9, .inl g))]) [(s, .inr (3, [.ref no, .ref nu])), (no, .inr (2, [.ref pno])), (pno, .inl (cI, 9, .inl f)), (nu, .inr (2, [.ref pnu])), (pnu, .inl (cI, 9, .inl g))] := ⟨hD0.1, fun k q h => ⟨k, q.2, h⟩⟩
  generalize hAe : xA [(s, .inr (3, [.ref no, .ref nu])), (no, .inr (2, [.ref pno])), (pno, .inl (cI, 9, .inl f)), (nu, .inr (2, [.ref pnu])), (pnu, .inl (cI, 9, .inl g))] = A at hD ⊢
  have hS : va_S A sZ.heap sZ.heap [] := va_S.rf
  have hl := lv_entry ([.ref s]) (n := 1) (Nat.le_of_ble_eq_true rfl)
  rw [lg_entry_eq]
  generalize (lg_sl ([.ref s]) ++ List.replicate (1 - (lg_sl ([.ref s])).length) Slot.unset).toArray = ls at hl ⊢
  have hl : lv_has ls 1 [(0, .ref s)] := hl
  have hP : va_P D vwCl [(s, .inr (3, [.ref no, .ref nu])), (no, .inr (2, [.ref pno])), (pno, .inl (cI, 9, .inl f)), (nu, .inr (2, [.ref pnu])), (pnu, .inl (cI, 9, .inl g))] sZ.heap := hP
  refine lv_aload_n hx hb dX3_setOne_0 rfl (lv_at hl 0 rfl) ?_
  refine va_get (D := D) (ci := 3) (v := .ref no) (C := RX3) (T := TX3) (N := 2) hx hb hts hinX3 hown hK.1 hP 0 rfl rfl 0 (by decide) (hts _ fl_X3_14) (fun _ h9 => h9) rfl dX3_setOne_1 ?_
  refine sg_callWv (fun _ => [(s, .inr (3, [.ref no, .ref nu])), (no, .inr (2, [.ref pno])), (pno, .inl (cI, 9, .inl (dF 1))), (nu, .inr (2, [.ref pnu])), (pnu, .inl (cI, 9, .inl g))]) [(false, 0), (true, 0), (true, 1), (false, 3), (false, 4)] (va_runV (As := []) (rest := []) (C := RX2) ⟨hx, hb, hml, hown, hts⟩ (c_X2_setOne l D cI cO no pno 9 f (by omega)) ⟨(sg_cB 0 hts mcX2_setOne ml_X3_24 in_X2 rfl rfl (by decide +kernel) ⟨Nat.le_of_ble_eq_true rfl, Nat.le_of_ble_eq_true rfl⟩), hts _ im_X2_setOne, hts _ se_X2_setOne⟩ (sg_wV (q0 := 1) hK hP hD [1, 2] (by decide) rfl rfl rfl rfl) rfl rfl hl.1 rfl (lv_room (Nat.le_of_ble_eq_true rfl)) dX3_setOne_4 ⟨Nat.zero_le _, Nat.zero_le _⟩) hP hD hS [1, 2] rfl (fun _ => rfl) (by decide) (fun _ => rfl) (fun u4 H locs hw4 hP hD hS => ?_)
  refine lv_aload_n hx hb dX3_setOne_7 rfl (lv_at hl 0 rfl) ?_
  refine va_get (D := D) (ci := 3) (v := .ref nu) (C := RX3) (T := TX3) (N := 2) hx hb hts hinX3 hown hK.1 hP 0 rfl rfl 1 (by decide) (hts _ fl_X3_18) (fun _ h9 => h9) rfl dX3_setOne_8 ?_
  refine sg_callWv (fun _ => [(s, .inr (3, [.ref no, .ref nu])), (no, .inr (2, [.ref pno])), (pno, .inl (cI, 9, .inl (dF 1))), (nu, .inr (2, [.ref pnu])), (pnu, .inl (cI, 9, .inl (dF 1)))]) [(false, 0), (false, 1), (false, 2), (true, 0), (true, 1)] (va_runV (As := []) (rest := []) (C := RX2) ⟨hx, hb, hml, hown, hts⟩ (c_X2_setOne l D cI cO nu pnu 9 g (by omega)) ⟨(sg_cB 0 hts mcX2_setOne ml_X3_24 in_X2 rfl rfl (by decide +kernel) ⟨Nat.le_of_ble_eq_true rfl, Nat.le_of_ble_eq_true rfl⟩), hts _ im_X2_setOne, hts _ se_X2_setOne⟩ (sg_wV (q0 := 3) hK hP hD [3, 4] (by decide) rfl rfl rfl rfl) rfl rfl hl.1 rfl (lv_room (Nat.le_of_ble_eq_true rfl)) dX3_setOne_11 ⟨Nat.zero_le _, Nat.zero_le _⟩) hP hD hS [3, 4] rfl (fun _ => rfl) (by decide) (fun _ => rfl) (fun u11 H locs hw11 hP hD hS => ?_)
  exact W.vret hx hb hr (fun tZ ht hW => ⟨⟨(), rfl, trivial, by show va_P D vwCl _ tZ.heap; rw [ht]; exact hP⟩, hS.F ht⟩) hS.2.2 dX3_setOne_14
set_option maxHeartbeats 4000000 in
set_option maxRecDepth 100000 in
theorem c_X3_multiply (l : Launch) (D : va_G) (cI cO : ClassId) (s : Nat) (no : Nat) (pno : Nat) (nu : Nat) (pnu : Nat) (X : Nat) (Y : Nat) (h : Nat) (o : Nat) (u : Nat) (ho : o < 4294967296) (hu : u < 4294967296) : Met l yX3_multiply (.code yX3_multiply cX3_multiply 2 none :: sgT) ({ frames := 1, cells := 0, slots := 0, locals := 27 }) (sgWc D cI cO [.ref s, .ref h] [(s, .inr (3, [.ref no, .ref nu])), (no, .inr (2, [.ref pno])), (pno, .inl (cI, 9, .inl (dF X))), (nu, .inr (2, [.ref pnu])), (pnu, .inl (cI, 9, .inl (dF Y))), (h, .inr (0, [.long (lN o), .long (lN u)]))]) (va_Qv (fun uZ : Unit => True) (fun uZ t => va_P D vwCl [(s, .inr (3, [.ref no, .ref nu])), (no, .inr (2, [.ref pno])), (pno, .inl (cI, 9, .inl (dF (o * X)))), (nu, .inr (2, [.ref pnu])), (pnu, .inl (cI, 9, .inl (dF (u * Y)))), (h, .inr (0, [.long (lN o), .long (lN u)]))] t.heap) (xA [(s, .inr (3, [.ref no, .ref nu])), (no, .inr (2, [.ref pno])), (pno, .inl (cI, 9, .inl (dF X))), (nu, .inr (2, [.ref pnu])), (pnu, .inl (cI, 9, .inl (dF Y))), (h, .inr (0, [.long (lN o), .long (lN u)]))])) 0 0 (xA [(s, .inr (3, [.ref no, .ref nu])), (no, .inr (2, [.ref pno])), (pno, .inl (cI, 9, .inl (dF X))), (nu, .inr (2, [.ref pnu])), (pnu, .inl (cI, 9, .inl (dF Y))), (h, .inr (0, [.long (lN o), .long (lN u)]))]) := by
  refine Met.ofW (cc := cX3_multiply) (maxL := 2) (ret := none) (by decide) rfl ?_
  intro pZ eZ sZ mZ argsZ belowZ methZ cZ s₁ BZ hml hv
  obtain ⟨rfl, hP, hK, hD0⟩ := hv
  have hx := BZ.exec
  have hb := BZ.bytes
  have hr := BZ.returns
  have hts : ∀ wZ ∈ sgT, wZ.before ([.ref s, .ref h] : List Value).toArray sZ = true := fun wZ h => atoms_spec (ws := (.code yX3_multiply cX3_multiply 2 none :: sgT)) BZ.pre wZ (List.mem_cons_of_mem _ h)
  have hown : sZ.vm.findClass RX3 = some mZ.cls := findClass_of_methodNamed BZ.named
  have hlocks := BZ.notSynchronized
  have hD : va_D (xA [(s, .inr (3, [.ref no, .ref nu])), (no, .inr (2, [.ref pno])), (pno, .inl (cI, 9, .inl (dF X))), (nu, .inr (2, [.ref pnu])), (pnu, .inl (cI, 9, .inl (dF Y))), (h, .inr (0, [.long (lN o), .long (lN u)]))]) [(s, .inr (3, [.ref no, .ref nu])), (no, .inr (2, [.ref pno])), (pno, .inl (cI, 9, .inl (dF X))), (nu, .inr (2, [.ref pnu])), (pnu, .inl (cI, 9, .inl (dF Y))), (h, .inr (0, [.long (lN o), .long (lN u)]))] := ⟨hD0.1, fun k q h => ⟨k, q.2, h⟩⟩
  generalize hAe : xA [(s, .inr (3, [.ref no, .ref nu])), (no, .inr (2, [.ref pno])), (pno, .inl (cI, 9, .inl (dF X))), (nu, .inr (2, [.ref pnu])), (pnu, .inl (cI, 9, .inl (dF Y))), (h, .inr (0, [.long (lN o), .long (lN u)]))] = A at hD ⊢
  have hS : va_S A sZ.heap sZ.heap [] := va_S.rf
  have hl := lv_entry ([.ref s, .ref h]) (n := 2) (Nat.le_of_ble_eq_true rfl)
  rw [lg_entry_eq]
  generalize (lg_sl ([.ref s, .ref h]) ++ List.replicate (2 - (lg_sl ([.ref s, .ref h])).length) Slot.unset).toArray = ls at hl ⊢
  have hl : lv_has ls 2 [(0, .ref s), (1, .ref h)] := hl
  have hP : va_P D vwCl [(s, .inr (3, [.ref no, .ref nu])), (no, .inr (2, [.ref pno])), (pno, .inl (cI, 9, .inl (dF X))), (nu, .inr (2, [.ref pnu])), (pnu, .inl (cI, 9, .inl (dF Y))), (h, .inr (0, [.long (lN o), .long (lN u)]))] sZ.heap := hP
  refine lv_aload_n hx hb dX3_multiply_0 rfl (lv_at hl 0 rfl) ?_
  refine va_get (D := D) (ci := 3) (v := .ref no) (C := RX3) (T := TX3) (N := 2) hx hb hts hinX3 hown hK.1 hP 0 rfl rfl 0 (by decide) (hts _ fl_X3_14) (fun _ h9 => h9) rfl dX3_multiply_1 ?_
  refine lv_aload_n hx hb dX3_multiply_4 rfl (lv_at hl 1 rfl) ?_
  refine va_get (D := D) (ci := 0) (v := .long (lN o)) (C := RX0) (T := TX0) (N := 2) hx hb hts hinX0 hown hK.1 hP 5 rfl rfl 0 (by decide) (hts _ fl_X3_25) (fun _ h9 => h9) rfl dX3_multiply_5 ?_
  refine sg_callWv (fun _ => [(s, .inr (3, [.ref no, .ref nu])), (no, .inr (2, [.ref pno])), (pno, .inl (cI, 9, .inl (dF (o * X)))), (nu, .inr (2, [.ref pnu])), (pnu, .inl (cI, 9, .inl (dF Y))), (h, .inr (0, [.long (lN o), .long (lN u)]))]) [(false, 0), (true, 0), (true, 1), (false, 3), (false, 4), (false, 5)] (va_runV (As := [.long (lN o)]) (rest := []) (C := RX2) ⟨hx, hb, hml, hown, hts⟩ (c_X2_multiply l D cI cO no pno 9 X o (by omega) (by omega)) ⟨(sg_cB 1 hts mcX2_multiply ml_X3_30 in_X2 rfl rfl (by decide +kernel) ⟨Nat.le_of_ble_eq_true rfl, Nat.le_of_ble_eq_true rfl⟩), hts _ im_X2_multiply, hts _ se_X2_multiply⟩ (sg_wV (q0 := 1) hK hP hD [1, 2] (by decide) rfl rfl rfl rfl) rfl rfl hl.1 rfl (lv_room (Nat.le_of_ble_eq_true rfl)) dX3_multiply_8 ⟨Nat.zero_le _, Nat.zero_le _⟩) hP hD hS [1, 2] rfl (fun _ => rfl) (by decide) (fun _ => rfl) (fun u8 H locs hw8 hP hD hS => ?_)
  refine lv_aload_n hx hb dX3_multiply_11 rfl (lv_at hl 0 rfl) ?_
  refine va_get (D := D) (ci := 3) (v := .ref nu) (C := RX3) (T := TX3) (N := 2) hx hb hts hinX3 hown hK.1 hP 0 rfl rfl 1 (by decide) (hts _ fl_X3_18) (fun _ h9 => h9) rfl dX3_multiply_12 ?_
  refine lv_aload_n hx hb dX3_multiply_15 rfl (lv_at hl 1 rfl) ?_
  refine va_get (D := D) (ci := 0) (v := .long (lN u)) (C := RX0) (T := TX0) (N := 2) hx hb hts hinX0 hown hK.1 hP 5 rfl rfl 1 (by decide) (hts _ fl_X3_34) (fun _ h9 => h9) rfl dX3_multiply_16 ?_
  refine sg_callWv (fun _ => [(s, .inr (3, [.ref no, .ref nu])), (no, .inr (2, [.ref pno])), (pno, .inl (cI, 9, .inl (dF (o * X)))), (nu, .inr (2, [.ref pnu])), (pnu, .inl (cI, 9, .inl (dF (u * Y)))), (h, .inr (0, [.long (lN o), .long (lN u)]))]) [(false, 0), (false, 1), (false, 2), (true, 0), (true, 1), (false, 5)] (va_runV (As := [.long (lN u)]) (rest := []) (C := RX2) ⟨hx, hb, hml, hown, hts⟩ (c_X2_multiply l D cI cO nu pnu 9 Y u (by omega) (by omega)) ⟨(sg_cB 1 hts mcX2_multiply ml_X3_30 in_X2 rfl rfl (by decide +kernel) ⟨Nat.le_of_ble_eq_true rfl, Nat.le_of_ble_eq_true rfl⟩), hts _ im_X2_multiply, hts _ se_X2_multiply⟩ (sg_wV (q0 := 3) hK hP hD [3, 4] (by decide) rfl rfl rfl rfl) rfl rfl hl.1 rfl (lv_room (Nat.le_of_ble_eq_true rfl)) dX3_multiply_19 ⟨Nat.zero_le _, Nat.zero_le _⟩) hP hD hS [3, 4] rfl (fun _ => rfl) (by decide) (fun _ => rfl) (fun u19 H locs hw19 hP hD hS => ?_)
  exact W.vret hx hb hr (fun tZ ht hW => ⟨⟨(), rfl, trivial, by show va_P D vwCl _ tZ.heap; rw [ht]; exact hP⟩, hS.F ht⟩) hS.2.2 dX3_multiply_22
set_option maxHeartbeats 4000000 in
set_option maxRecDepth 100000 in
theorem c_X3_copy (l : Launch) (D : va_G) (cI cO : ClassId) (s : Nat) (no : Nat) (pno : Nat) (nu : Nat) (pnu : Nat) (f : Nat → Int32) (g : Nat → Int32) (s2 : Nat) (no2 : Nat) (pno2 : Nat) (nu2 : Nat) (pnu2 : Nat) (f2 : Nat → Int32) (g2 : Nat → Int32)  : Met l yX3_copy (.code yX3_copy cX3_copy 2 none :: sgT) ({ frames := 2, cells := 0, slots := 0, locals := 43 }) (sgWc D cI cO [.ref s, .ref s2] [(s, .inr (3, [.ref no, .ref nu])), (no, .inr (2, [.ref pno])), (pno, .inl (cI, 9, .inl f)), (nu, .inr (2, [.ref pnu])), (pnu, .inl (cI, 9, .inl g)), (s2, .inr (3, [.ref no2, .ref nu2])), (no2, .inr (2, [.ref pno2])), (pno2, .inl (cI, 9, .inl f2)), (nu2, .inr (2, [.ref pnu2])), (pnu2, .inl (cI, 9, .inl g2))]) (va_Qv (fun uZ : Unit => True) (fun uZ t => va_P D vwCl [(s, .inr (3, [.ref no, .ref nu])), (no, .inr (2, [.ref pno])), (pno, .inl (cI, 9, .inl f2)), (nu, .inr (2, [.ref pnu])), (pnu, .inl (cI, 9, .inl g2)), (s2, .inr (3, [.ref no2, .ref nu2])), (no2, .inr (2, [.ref pno2])), (pno2, .inl (cI, 9, .inl f2)), (nu2, .inr (2, [.ref pnu2])), (pnu2, .inl (cI, 9, .inl g2))] t.heap) (xA [(s, .inr (3, [.ref no, .ref nu])), (no, .inr (2, [.ref pno])), (pno, .inl (cI, 9, .inl f)), (nu, .inr (2, [.ref pnu])), (pnu, .inl (cI, 9, .inl g)), (s2, .inr (3, [.ref no2, .ref nu2])), (no2, .inr (2, [.ref pno2])), (pno2, .inl (cI, 9, .inl f2)), (nu2, .inr (2, [.ref pnu2])), (pnu2, .inl (cI, 9, .inl g2))])) 0 0 (xA [(s, .inr (3, [.ref no, .ref nu])), (no, .inr (2, [.ref pno])), (pno, .inl (cI, 9, .inl f)), (nu, .inr (2, [.ref pnu])), (pnu, .inl (cI, 9, .inl g)), (s2, .inr (3, [.ref no2, .ref nu2])), (no2, .inr (2, [.ref pno2])), (pno2, .inl (cI, 9, .inl f2)), (nu2, .inr (2, [.ref pnu2])), (pnu2, .inl (cI, 9, .inl g2))]) := by
  refine Met.ofW (cc := cX3_copy) (maxL := 2) (ret := none) (by decide) rfl ?_
  intro pZ eZ sZ mZ argsZ belowZ methZ cZ s₁ BZ hml hv
  obtain ⟨rfl, hP, hK, hD0⟩ := hv
  have hx := BZ.exec
  have hb := BZ.bytes
  have hr := BZ.returns
  have hts : ∀ wZ ∈ sgT, wZ.before ([.ref s, .ref s2] : List Value).toArray sZ = true := fun wZ h => atoms_spec (ws := (.code yX3_copy cX3_copy 2 none :: sgT)) BZ.pre wZ (List.mem_cons_of_mem _ h)
  have hown : sZ.vm.findClass RX3 = some mZ.cls := findClass_of_methodNamed BZ.named
  have hlocks := BZ.notSynchronized
  have hD : va_D (xA [(s, .inr (3, [.ref no, .ref nu])), (no, .inr (2, [.ref pno])), (pno, .inl (cI, 9, .inl f)), (nu, .inr (2, [.ref pnu])), (pnu, .inl (cI, 9, .inl g)), (s2, .inr (3, [.ref no2, .ref nu2])), (no2, .inr (2, [.ref pno2])), (pno2, .inl (cI, 9, .inl f2)), (nu2, .inr (2, [.ref pnu2])), (pnu2, .inl (cI, 9, .inl g2))]) [(s, .inr (3, [.ref no, .ref nu])), (no, .inr (2, [.ref pno])), (pno, .inl (cI, 9, .inl f)), (nu, .inr (2, [.ref pnu])), (pnu, .inl (cI, 9, .inl g)), (s2, .inr (3, [.ref no2, .ref nu2])), (no2, .inr (2, [.ref pno2])), (pno2, .inl (cI, 9, .inl f2)), (nu2, .inr (2, [.ref pnu2])), (pnu2, .inl (cI, 9, .inl g2))] := ⟨hD0.1, fun k q h => ⟨k, q.2, h⟩⟩
  generalize hAe : xA [(s, .inr (3, [.ref no, .ref nu])), (no, .inr (2, [.ref pno])), (pno, .inl (cI, 9, .inl f)), (nu, .inr (2, [.ref pnu])), (pnu, .inl (cI, 9, .inl g)), (s2, .inr (3, [.ref no2, .ref nu2])), (no2, .inr (2, [.ref pno2])), (pno2, .inl (cI, 9, .inl f2)), (nu2, .inr (2, [.ref pnu2])), (pnu2, .inl (cI, 9, .inl g2))] = A at hD ⊢
  have hS : va_S A sZ.heap sZ.heap [] := va_S.rf
  have hl := lv_entry ([.ref s, .ref s2]) (n := 2) (Nat.le_of_ble_eq_true rfl)
  rw [lg_entry_eq]
  generalize (lg_sl ([.ref s, .ref s2]) ++ List.replicate (2 - (lg_sl ([.ref s, .ref s2])).length) Slot.unset).toArray = ls at hl ⊢
  have hl : lv_has ls 2 [(0, .ref s), (1, .ref s2)] := hl
  have hP : va_P D vwCl [(s, .inr (3, [.ref no, .ref nu])), (no, .inr (2, [.ref pno])), (pno, .inl (cI, 9, .inl f)), (nu, .inr (2, [.ref pnu])), (pnu, .inl (cI, 9, .inl g)), (s2, .inr (3, [.ref no2, .ref nu2])), (no2, .inr (2, [.ref pno2])), (pno2, .inl (cI, 9, .inl f2)), (nu2, .inr (2, [.ref pnu2])), (pnu2, .inl (cI, 9, .inl g2))] sZ.heap := hP
  refine lv_aload_n hx hb dX3_copy_0 rfl (lv_at hl 0 rfl) ?_
  refine va_get (D := D) (ci := 3) (v := .ref no) (C := RX3) (T := TX3) (N := 2) hx hb hts hinX3 hown hK.1 hP 0 rfl rfl 0 (by decide) (hts _ fl_X3_14) (fun _ h9 => h9) rfl dX3_copy_1 ?_
  refine lv_aload_n hx hb dX3_copy_4 rfl (lv_at hl 1 rfl) ?_
  refine va_get (D := D) (ci := 3) (v := .ref no2) (C := RX3) (T := TX3) (N := 2) hx hb hts hinX3 hown hK.1 hP 5 rfl rfl 0 (by decide) (hts _ fl_X3_14) (fun _ h9 => h9) rfl dX3_copy_5 ?_
  refine sg_callWv (fun _ => [(s, .inr (3, [.ref no, .ref nu])), (no, .inr (2, [.ref pno])), (pno, .inl (cI, 9, .inl f2)), (nu, .inr (2, [.ref pnu])), (pnu, .inl (cI, 9, .inl g)), (s2, .inr (3, [.ref no2, .ref nu2])), (no2, .inr (2, [.ref pno2])), (pno2, .inl (cI, 9, .inl f2)), (nu2, .inr (2, [.ref pnu2])), (pnu2, .inl (cI, 9, .inl g2))]) [(false, 0), (true, 0), (true, 1), (false, 3), (false, 4), (false, 5), (true, 2), (true, 3), (false, 8), (false, 9)] (va_runV (As := [.ref no2]) (rest := []) (C := RX2) ⟨hx, hb, hml, hown, hts⟩ (c_X2_copy l D cI cO no pno 9 f no2 pno2 f2 (by omega)) ⟨(sg_cB 1 hts mcX2_copy ml_X3_36 in_X2 rfl rfl (by decide +kernel) ⟨Nat.le_of_ble_eq_true rfl, Nat.le_of_ble_eq_true rfl⟩), hts _ im_X2_copy, hts _ se_X2_copy⟩ (sg_wV (q0 := 1) hK hP hD [1, 2, 6, 7] (by decide) rfl rfl rfl rfl) rfl rfl hl.1 rfl (lv_room (Nat.le_of_ble_eq_true rfl)) dX3_copy_8 ⟨Nat.zero_le _, Nat.zero_le _⟩) hP hD hS [1, 2, 6, 7] rfl (fun _ => rfl) (by decide) (fun _ => rfl) (fun u8 H locs hw8 hP hD hS => ?_)
  refine lv_aload_n hx hb dX3_copy_11 rfl (lv_at hl 0 rfl) ?_
  refine va_get (D := D) (ci := 3) (v := .ref nu) (C := RX3) (T := TX3) (N := 2) hx hb hts hinX3 hown hK.1 hP 0 rfl rfl 1 (by decide) (hts _ fl_X3_18) (fun _ h9 => h9) rfl dX3_copy_12 ?_
  refine lv_aload_n hx hb dX3_copy_15 rfl (lv_at hl 1 rfl) ?_
  refine va_get (D := D) (ci := 3) (v := .ref nu2) (C := RX3) (T := TX3) (N := 2) hx hb hts hinX3 hown hK.1 hP 5 rfl rfl 1 (by decide) (hts _ fl_X3_18) (fun _ h9 => h9) rfl dX3_copy_16 ?_
  refine sg_callWv (fun _ => [(s, .inr (3, [.ref no, .ref nu])), (no, .inr (2, [.ref pno])), (pno, .inl (cI, 9, .inl f2)), (nu, .inr (2, [.ref pnu])), (pnu, .inl (cI, 9, .inl g2)), (s2, .inr (3, [.ref no2, .ref nu2])), (no2, .inr (2, [.ref pno2])), (pno2, .inl (cI, 9, .inl f2)), (nu2, .inr (2, [.ref pnu2])), (pnu2, .inl (cI, 9, .inl g2))]) [(false, 0), (false, 1), (false, 2), (true, 0), (true, 1), (false, 5), (false, 6), (false, 7), (true, 2), (true, 3)] (va_runV (As := [.ref nu2]) (rest := []) (C := RX2) ⟨hx, hb, hml, hown, hts⟩ (c_X2_copy l D cI cO nu pnu 9 g nu2 pnu2 g2 (by omega)) ⟨(sg_cB 1 hts mcX2_copy ml_X3_36 in_X2 rfl rfl (by decide +kernel) ⟨Nat.le_of_ble_eq_true rfl, Nat.le_of_ble_eq_true rfl⟩), hts _ im_X2_copy, hts _ se_X2_copy⟩ (sg_wV (q0 := 3) hK hP hD [3, 4, 8, 9] (by decide) rfl rfl rfl rfl) rfl rfl hl.1 rfl (lv_room (Nat.le_of_ble_eq_true rfl)) dX3_copy_19 ⟨Nat.zero_le _, Nat.zero_le _⟩) hP hD hS [3, 4, 8, 9] rfl (fun _ => rfl) (by decide) (fun _ => rfl) (fun u19 H locs hw19 hP hD hS => ?_)
  exact W.vret hx hb hr (fun tZ ht hW => ⟨⟨(), rfl, trivial, by show va_P D vwCl _ tZ.heap; rw [ht]; exact hP⟩, hS.F ht⟩) hS.2.2 dX3_copy_22
set_option maxHeartbeats 4000000 in
set_option maxRecDepth 100000 in
theorem c_X4_openLength (l : Launch) (D : va_G) (cI cO : ClassId) (h : Nat) (ro : Nat) (le : Nat) (ns : Nat) (fL : Nat → Int32) (n : Nat) (hns : ns ≤ 8) (hL : fL ns = nI n) : Met l yX4_openLength (.code yX4_openLength cX4_openLength 1 (some .int) :: sgT) ({ frames := 0, cells := 0, slots := 0, locals := 0 }) (sgPc D cI cO [.ref h] [(h, .inr (4, [.ref ro, .ref le, .int (nI ns)])), (le, .inl (cI, 9, .inl fL))]) (vp_Si (fun r => r = nI n)) 0 0 (fun _ => False) := by
  refine Met.ofW (cc := cX4_openLength) (maxL := 1) (ret := (some .int)) (by decide) rfl ?_
  intro pZ eZ sZ mZ argsZ belowZ methZ cZ s₁ BZ hml hv
  obtain ⟨rfl, hP, hK⟩ := hv
  have hx := BZ.exec
  have hb := BZ.bytes
  have hr := BZ.returns
  have hts : ∀ wZ ∈ sgT, wZ.before ([.ref h] : List Value).toArray sZ = true := fun wZ h => atoms_spec (ws := (.code yX4_openLength cX4_openLength 1 (some .int) :: sgT)) BZ.pre wZ (List.mem_cons_of_mem _ h)
  have hown : sZ.vm.findClass RX4 = some mZ.cls := findClass_of_methodNamed BZ.named
  have hlocks := BZ.notSynchronized
  have hl := lv_entry ([.ref h]) (n := 1) (Nat.le_of_ble_eq_true rfl)
  rw [lg_entry_eq]
  generalize (lg_sl ([.ref h]) ++ List.replicate (1 - (lg_sl ([.ref h])).length) Slot.unset).toArray = ls at hl ⊢
  have hl : lv_has ls 1 [(0, .ref h)] := hl
  refine lv_aload_n hx hb dX4_openLength_0 rfl (lv_at hl 0 rfl) ?_
  refine va_get (D := D) (ci := 4) (v := .ref le) (C := RX4) (T := TX4) (N := 3) hx hb hts hinX4 hown hK.1 hP 0 rfl rfl 1 (by decide) (hts _ fl_X4_16) (fun _ h9 => h9) rfl dX4_openLength_1 ?_
  refine lv_aload_n hx hb dX4_openLength_4 rfl (lv_at hl 0 rfl) ?_
  refine va_get (D := D) (ci := 4) (v := .int (nI ns)) (C := RX4) (T := TX4) (N := 3) hx hb hts hinX4 hown hK.1 hP 0 rfl rfl 2 (by decide) (hts _ fl_X4_20) (fun _ h9 => h9) rfl dX4_openLength_5 ?_
  refine n_iald (v := nI n) hx hb hK.1 hP 1 0 rfl rfl (by omega) (by omega) hL dX4_openLength_8 ?_
  exact W.iret hx hb hr (fun tZ ht hW => ⟨_, rfl, rfl, ht⟩) (fun q h => by cases h) dX4_openLength_9
set_option maxHeartbeats 4000000 in
set_option maxRecDepth 100000 in
theorem c_X4_clearOpen (l : Launch) (D : va_G) (cI cO : ClassId) (h : Nat) (ro : Nat) (le : Nat) (ns : Nat) (fL : Nat → Int32) (hns : ns ≤ 8) : Met l yX4_clearOpen (.code yX4_clearOpen cX4_clearOpen 1 none :: sgT) ({ frames := 0, cells := 0, slots := 0, locals := 0 }) (sgWc D cI cO [.ref h] [(h, .inr (4, [.ref ro, .ref le, .int (nI ns)])), (le, .inl (cI, 9, .inl fL))]) (va_Qv (fun uZ : Unit => True) (fun uZ t => va_P D vwCl [(h, .inr (4, [.ref ro, .ref le, .int (nI ns)])), (le, .inl (cI, 9, .inl (upd fL ns (nI 0))))] t.heap) (xA [(h, .inr (4, [.ref ro, .ref le, .int (nI ns)])), (le, .inl (cI, 9, .inl fL))])) 0 0 (xA [(h, .inr (4, [.ref ro, .ref le, .int (nI ns)])), (le, .inl (cI, 9, .inl fL))]) := by
  refine Met.ofW (cc := cX4_clearOpen) (maxL := 1) (ret := none) (by decide) rfl ?_
  intro pZ eZ sZ mZ argsZ belowZ methZ cZ s₁ BZ hml hv
  obtain ⟨rfl, hP, hK, hD0⟩ := hv
  have hx := BZ.exec
  have hb := BZ.bytes
  have hr := BZ.returns
  have hts : ∀ wZ ∈ sgT, wZ.before ([.ref h] : List Value).toArray sZ = true := fun wZ h => atoms_spec (ws := (.code yX4_clearOpen cX4_clearOpen 1 none :: sgT)) BZ.pre wZ (List.mem_cons_of_mem _ h)
  have hown : sZ.vm.findClass RX4 = some mZ.cls := findClass_of_methodNamed BZ.named
  have hlocks := BZ.notSynchronized
  have hD : va_D (xA [(h, .inr (4, [.ref ro, .ref le, .int (nI ns)])), (le, .inl (cI, 9, .inl fL))]) [(h, .inr (4, [.ref ro, .ref le, .int (nI ns)])), (le, .inl (cI, 9, .inl fL))] := ⟨hD0.1, fun k q h => ⟨k, q.2, h⟩⟩
  generalize hAe : xA [(h, .inr (4, [.ref ro, .ref le, .int (nI ns)])), (le, .inl (cI, 9, .inl fL))] = A at hD ⊢
  have hS : va_S A sZ.heap sZ.heap [] := va_S.rf
  have hl := lv_entry ([.ref h]) (n := 1) (Nat.le_of_ble_eq_true rfl)
  rw [lg_entry_eq]
  generalize (lg_sl ([.ref h]) ++ List.replicate (1 - (lg_sl ([.ref h])).length) Slot.unset).toArray = ls at hl ⊢
  have hl : lv_has ls 1 [(0, .ref h)] := hl
  have hP : va_P D vwCl [(h, .inr (4, [.ref ro, .ref le, .int (nI ns)])), (le, .inl (cI, 9, .inl fL))] sZ.heap := hP
  refine lv_aload_n hx hb dX4_clearOpen_0 rfl (lv_at hl 0 rfl) ?_
  refine va_get (D := D) (ci := 4) (v := .ref le) (C := RX4) (T := TX4) (N := 3) hx hb hts hinX4 hown hK.1 hP 0 rfl rfl 1 (by decide) (hts _ fl_X4_16) (fun _ h9 => h9) rfl dX4_clearOpen_1 ?_
  refine lv_aload_n hx hb dX4_clearOpen_4 rfl (lv_at hl 0 rfl) ?_
  refine va_get (D := D) (ci := 4) (v := .int (nI ns)) (C := RX4) (T := TX4) (N := 3) hx hb hts hinX4 hown hK.1 hP 0 rfl rfl 2 (by decide) (hts _ fl_X4_20) (fun _ h9 => h9) rfl dX4_clearOpen_5 ?_
  refine lv_iconst (v := nI 0) hx hb dX4_clearOpen_8 (by decide) ?_
  refine n_iast hx hb hK.1 hP hD hS 1 0 rfl rfl (by omega) (by omega) dX4_clearOpen_9 (fun H locs hP hD hS => ?_)
  have hP : va_P D vwCl [(h, .inr (4, [.ref ro, .ref le, .int (nI ns)])), (le, .inl (cI, 9, .inl (upd fL ns (nI 0))))] H := hP
  have hD : va_D A [(h, .inr (4, [.ref ro, .ref le, .int (nI ns)])), (le, .inl (cI, 9, .inl (upd fL ns (nI 0))))] := hD
  exact W.vret hx hb hr (fun tZ ht hW => ⟨⟨(), rfl, trivial, by show va_P D vwCl _ tZ.heap; rw [ht]; exact hP⟩, hS.F ht⟩) hS.2.2 dX4_clearOpen_10
set_option maxHeartbeats 4000000 in
set_option maxRecDepth 100000 in
theorem c_X4_close (l : Launch) (D : va_G) (cI cO : ClassId) (h : Nat) (ro : Nat) (le : Nat) (ns : Nat) (fL : Nat → Int32) (hns : ns < 8) : Met l yX4_close (.code yX4_close cX4_close 1 none :: sgT) ({ frames := 0, cells := 0, slots := 0, locals := 0 }) (sgWc D cI cO [.ref h] [(h, .inr (4, [.ref ro, .ref le, .int (nI ns)])), (le, .inl (cI, 9, .inl fL))]) (va_Qv (fun uZ : Unit => True) (fun uZ t => va_P D vwCl [(h, .inr (4, [.ref ro, .ref le, .int (nI (ns + 1))])), (le, .inl (cI, 9, .inl (upd fL (ns + 1) (nI 0))))] t.heap) (xA [(h, .inr (4, [.ref ro, .ref le, .int (nI ns)])), (le, .inl (cI, 9, .inl fL))])) 0 0 (xA [(h, .inr (4, [.ref ro, .ref le, .int (nI ns)])), (le, .inl (cI, 9, .inl fL))]) := by
  refine Met.ofW (cc := cX4_close) (maxL := 1) (ret := none) (by decide) rfl ?_
  intro pZ eZ sZ mZ argsZ belowZ methZ cZ s₁ BZ hml hv
  obtain ⟨rfl, hP, hK, hD0⟩ := hv
  have hx := BZ.exec
  have hb := BZ.bytes
  have hr := BZ.returns
  have hts : ∀ wZ ∈ sgT, wZ.before ([.ref h] : List Value).toArray sZ = true := fun wZ h => atoms_spec (ws := (.code yX4_close cX4_close 1 none :: sgT)) BZ.pre wZ (List.mem_cons_of_mem _ h)
  have hown : sZ.vm.findClass RX4 = some mZ.cls := findClass_of_methodNamed BZ.named
  have hlocks := BZ.notSynchronized
  have hD : va_D (xA [(h, .inr (4, [.ref ro, .ref le, .int (nI ns)])), (le, .inl (cI, 9, .inl fL))]) [(h, .inr (4, [.ref ro, .ref le, .int (nI ns)])), (le, .inl (cI, 9, .inl fL))] := ⟨hD0.1, fun k q h => ⟨k, q.2, h⟩⟩
  generalize hAe : xA [(h, .inr (4, [.ref ro, .ref le, .int (nI ns)])), (le, .inl (cI, 9, .inl fL))] = A at hD ⊢
  have hS : va_S A sZ.heap sZ.heap [] := va_S.rf
  have hl := lv_entry ([.ref h]) (n := 1) (Nat.le_of_ble_eq_true rfl)
  rw [lg_entry_eq]
  generalize (lg_sl ([.ref h]) ++ List.replicate (1 - (lg_sl ([.ref h])).length) Slot.unset).toArray = ls at hl ⊢
  have hl : lv_has ls 1 [(0, .ref h)] := hl
  have hP : va_P D vwCl [(h, .inr (4, [.ref ro, .ref le, .int (nI ns)])), (le, .inl (cI, 9, .inl fL))] sZ.heap := hP
  refine lv_aload_n hx hb dX4_close_0 rfl (lv_at hl 0 rfl) ?_
  refine va_get (D := D) (ci := 4) (v := .int (nI ns)) (C := RX4) (T := TX4) (N := 3) hx hb hts hinX4 hown hK.1 hP 0 rfl rfl 2 (by decide) (hts _ fl_X4_20) (fun _ h9 => h9) rfl dX4_close_1 ?_
  refine lv_bipush (v := nI 8) hx hb dX4_close_4 (by decide) ?_
  refine ci_icmp_ge (X := ((ns : Nat) : Int)) (Y := ((8 : Nat) : Int)) (tgt := 29) hx hb (sg_n (by omega)) (sg_n (by omega)) dX4_close_6 rfl (fun h6 => by exfalso; omega) (fun h6 => ?_)
  refine lv_aload_n hx hb dX4_close_9 rfl (lv_at hl 0 rfl) ?_
  refine lv_dup hx hb dX4_close_10 rfl ?_
  refine va_get (D := D) (ci := 4) (v := .int (nI ns)) (C := RX4) (T := TX4) (N := 3) hx hb hts hinX4 hown hK.1 hP 0 rfl rfl 2 (by decide) (hts _ fl_X4_20) (fun _ h9 => h9) rfl dX4_close_11 ?_
  refine lv_iconst (v := nI 1) hx hb dX4_close_14 (by decide) ?_
  refine n_iadd hx hb dX4_close_15 ?_
  refine va_put (D := D) (ci := 4) (v := .int (nI (ns + 1))) (ty := .int) (C := RX4) (T := TX4) (N := 3) hx hb hts hinX4 tyX4 tyX4_ok nmX4 hown hK.1 hP hD hS 0 rfl rfl 2 (by decide) (hts _ fl_X4_20) (fun _ h9 => h9) rfl (by decide +kernel) rfl rfl (Nat.le_of_ble_eq_true rfl) dX4_close_16 (fun H locs hP hD hS => ?_)
  have hP : va_P D vwCl [(h, .inr (4, [.ref ro, .ref le, .int (nI (ns + 1))])), (le, .inl (cI, 9, .inl fL))] H := hP
  have hD : va_D A [(h, .inr (4, [.ref ro, .ref le, .int (nI (ns + 1))])), (le, .inl (cI, 9, .inl fL))] := hD
  refine lv_aload_n hx hb dX4_close_19 rfl (lv_at hl 0 rfl) ?_
  refine va_get (D := D) (ci := 4) (v := .ref le) (C := RX4) (T := TX4) (N := 3) hx hb hts hinX4 hown hK.1 hP 0 rfl rfl 1 (by decide) (hts _ fl_X4_16) (fun _ h9 => h9) rfl dX4_close_20 ?_
  refine lv_aload_n hx hb dX4_close_23 rfl (lv_at hl 0 rfl) ?_
  refine va_get (D := D) (ci := 4) (v := .int (nI (ns + 1))) (C := RX4) (T := TX4) (N := 3) hx hb hts hinX4 hown hK.1 hP 0 rfl rfl 2 (by decide) (hts _ fl_X4_20) (fun _ h9 => h9) rfl dX4_close_24 ?_
  refine lv_iconst (v := nI 0) hx hb dX4_close_27 (by decide) ?_
  refine n_iast hx hb hK.1 hP hD hS 1 0 rfl rfl (by omega) (by omega) dX4_close_28 (fun H locs hP hD hS => ?_)
  have hP : va_P D vwCl [(h, .inr (4, [.ref ro, .ref le, .int (nI (ns + 1))])), (le, .inl (cI, 9, .inl (upd fL (ns + 1) (nI 0))))] H := hP
  have hD : va_D A [(h, .inr (4, [.ref ro, .ref le, .int (nI (ns + 1))])), (le, .inl (cI, 9, .inl (upd fL (ns + 1) (nI 0))))] := hD
  exact W.vret hx hb hr (fun tZ ht hW => ⟨⟨(), rfl, trivial, by show va_P D vwCl _ tZ.heap; rw [ht]; exact hP⟩, hS.F ht⟩) hS.2.2 dX4_close_29
set_option maxHeartbeats 4000000 in
set_option maxRecDepth 100000 in
theorem c_X4_reopen (l : Launch) (D : va_G) (cI cO : ClassId) (h : Nat) (ro : Nat) (le : Nat) (ns : Nat) (fL : Nat → Int32) (hns : 1 ≤ ns ∧ ns ≤ 8) : Met l yX4_reopen (.code yX4_reopen cX4_reopen 1 none :: sgT) ({ frames := 0, cells := 0, slots := 0, locals := 0 }) (sgWc D cI cO [.ref h] [(h, .inr (4, [.ref ro, .ref le, .int (nI ns)])), (le, .inl (cI, 9, .inl fL))]) (va_Qv (fun uZ : Unit => True) (fun uZ t => va_P D vwCl [(h, .inr (4, [.ref ro, .ref le, .int (nI (ns - 1))])), (le, .inl (cI, 9, .inl fL))] t.heap) (xA [(h, .inr (4, [.ref ro, .ref le, .int (nI ns)])), (le, .inl (cI, 9, .inl fL))])) 0 0 (xA [(h, .inr (4, [.ref ro, .ref le, .int (nI ns)])), (le, .inl (cI, 9, .inl fL))]) := by
  refine Met.ofW (cc := cX4_reopen) (maxL := 1) (ret := none) (by decide) rfl ?_
  intro pZ eZ sZ mZ argsZ belowZ methZ cZ s₁ BZ hml hv
  obtain ⟨rfl, hP, hK, hD0⟩ := hv
  have hx := BZ.exec
  have hb := BZ.bytes
  have hr := BZ.returns
  have hts : ∀ wZ ∈ sgT, wZ.before ([.ref h] : List Value).toArray sZ = true := fun wZ h => atoms_spec (ws := (.code yX4_reopen cX4_reopen 1 none :: sgT)) BZ.pre wZ (List.mem_cons_of_mem _ h)
  have hown : sZ.vm.findClass RX4 = some mZ.cls := findClass_of_methodNamed BZ.named
  have hlocks := BZ.notSynchronized
  have hD : va_D (xA [(h, .inr (4, [.ref ro, .ref le, .int (nI ns)])), (le, .inl (cI, 9, .inl fL))]) [(h, .inr (4, [.ref ro, .ref le, .int (nI ns)])), (le, .inl (cI, 9, .inl fL))] := ⟨hD0.1, fun k q h => ⟨k, q.2, h⟩⟩
  generalize hAe : xA [(h, .inr (4, [.ref ro, .ref le, .int (nI ns)])), (le, .inl (cI, 9, .inl fL))] = A at hD ⊢
  have hS : va_S A sZ.heap sZ.heap [] := va_S.rf
  have hl := lv_entry ([.ref h]) (n := 1) (Nat.le_of_ble_eq_true rfl)
  rw [lg_entry_eq]
  generalize (lg_sl ([.ref h]) ++ List.replicate (1 - (lg_sl ([.ref h])).length) Slot.unset).toArray = ls at hl ⊢
  have hl : lv_has ls 1 [(0, .ref h)] := hl
  have hP : va_P D vwCl [(h, .inr (4, [.ref ro, .ref le, .int (nI ns)])), (le, .inl (cI, 9, .inl fL))] sZ.heap := hP
  refine lv_aload_n hx hb dX4_reopen_0 rfl (lv_at hl 0 rfl) ?_
  refine va_get (D := D) (ci := 4) (v := .int (nI ns)) (C := RX4) (T := TX4) (N := 3) hx hb hts hinX4 hown hK.1 hP 0 rfl rfl 2 (by decide) (hts _ fl_X4_20) (fun _ h9 => h9) rfl dX4_reopen_1 ?_
  refine ci_if_le (X := ((ns : Nat) : Int)) (tgt := 17) hx hb (sg_n (by omega)) dX4_reopen_4 rfl (fun h4 => by exfalso; omega) (fun h4 => ?_)
  refine lv_aload_n hx hb dX4_reopen_7 rfl (lv_at hl 0 rfl) ?_
  refine lv_dup hx hb dX4_reopen_8 rfl ?_
  refine va_get (D := D) (ci := 4) (v := .int (nI ns)) (C := RX4) (T := TX4) (N := 3) hx hb hts hinX4 hown hK.1 hP 0 rfl rfl 2 (by decide) (hts _ fl_X4_20) (fun _ h9 => h9) rfl dX4_reopen_9 ?_
  refine lv_iconst (v := nI 1) hx hb dX4_reopen_12 (by decide) ?_
  refine n_isub hx hb dX4_reopen_13 (by omega) ?_
  refine va_put (D := D) (ci := 4) (v := .int (nI (ns - 1))) (ty := .int) (C := RX4) (T := TX4) (N := 3) hx hb hts hinX4 tyX4 tyX4_ok nmX4 hown hK.1 hP hD hS 0 rfl rfl 2 (by decide) (hts _ fl_X4_20) (fun _ h9 => h9) rfl (by decide +kernel) rfl rfl (Nat.le_of_ble_eq_true rfl) dX4_reopen_14 (fun H locs hP hD hS => ?_)
  have hP : va_P D vwCl [(h, .inr (4, [.ref ro, .ref le, .int (nI (ns - 1))])), (le, .inl (cI, 9, .inl fL))] H := hP
  have hD : va_D A [(h, .inr (4, [.ref ro, .ref le, .int (nI (ns - 1))])), (le, .inl (cI, 9, .inl fL))] := hD
  exact W.vret hx hb hr (fun tZ ht hW => ⟨⟨(), rfl, trivial, by show va_P D vwCl _ tZ.heap; rw [ht]; exact hP⟩, hS.F ht⟩) hS.2.2 dX4_reopen_17
set_option maxHeartbeats 4000000 in
set_option maxRecDepth 100000 in
theorem c_append_full (l : Launch) (D : va_G) (cI cO : ClassId) (h : Nat) (ro : Nat) (le : Nat) (ns : Nat) (fL : Nat → Int32) (x : Int32) (hns : ns ≤ 8) (hL : fL ns = nI 8) : Met l yX4_append (.code yX4_append cX4_append 3 (some .boolean) :: sgT) ({ frames := 0, cells := 0, slots := 0, locals := 0 }) (sgPc D cI cO [.ref h, .int x] [(h, .inr (4, [.ref ro, .ref le, .int (nI ns)])), (le, .inl (cI, 9, .inl fL))]) (vp_Si (fun r => r = nI 0)) 0 0 (fun _ => False) := by
  refine Met.ofW (cc := cX4_append) (maxL := 3) (ret := (some .boolean)) (by decide) rfl ?_
  intro pZ eZ sZ mZ argsZ belowZ methZ cZ s₁ BZ hml hv
  obtain ⟨rfl, hP, hK⟩ := hv
  have hx := BZ.exec
  have hb := BZ.bytes
  have hr := BZ.returns
  have hts : ∀ wZ ∈ sgT, wZ.before ([.ref h, .int x] : List Value).toArray sZ = true := fun wZ h => atoms_spec (ws := (.code yX4_append cX4_append 3 (some .boolean) :: sgT)) BZ.pre wZ (List.mem_cons_of_mem _ h)
  have hown : sZ.vm.findClass RX4 = some mZ.cls := findClass_of_methodNamed BZ.named
  have hlocks := BZ.notSynchronized
  have hl := lv_entry ([.ref h, .int x]) (n := 3) (Nat.le_of_ble_eq_true rfl)
  rw [lg_entry_eq]
  generalize (lg_sl ([.ref h, .int x]) ++ List.replicate (3 - (lg_sl ([.ref h, .int x])).length) Slot.unset).toArray = ls at hl ⊢
  have hl : lv_has ls 3 [(0, .ref h), (1, .int x)] := hl
  refine lv_aload_n hx hb dX4_append_0 rfl (lv_at hl 0 rfl) ?_
  refine va_get (D := D) (ci := 4) (v := .ref le) (C := RX4) (T := TX4) (N := 3) hx hb hts hinX4 hown hK.1 hP 0 rfl rfl 1 (by decide) (hts _ fl_X4_16) (fun _ h9 => h9) rfl dX4_append_1 ?_
  refine lv_aload_n hx hb dX4_append_4 rfl (lv_at hl 0 rfl) ?_
  refine va_get (D := D) (ci := 4) (v := .int (nI ns)) (C := RX4) (T := TX4) (N := 3) hx hb hts hinX4 hown hK.1 hP 0 rfl rfl 2 (by decide) (hts _ fl_X4_20) (fun _ h9 => h9) rfl dX4_append_5 ?_
  refine n_iald (v := nI 8) hx hb hK.1 hP 1 0 rfl rfl (by omega) (by omega) hL dX4_append_8 ?_
  refine lv_istore_n hx hb dX4_append_9 rfl hl (by decide) rfl (fun ls hl => ?_)
  have hl : lv_has ls 3 [(2, .int (nI 8)), (0, .ref h), (1, .int x)] := hl
  refine lv_iload_n hx hb dX4_append_10 rfl (lv_at hl 0 rfl) ?_
  refine lv_bipush (v := nI 8) hx hb dX4_append_11 (by decide) ?_
  refine ci_icmp_ne (X := ((8 : Nat) : Int)) (Y := ((8 : Nat) : Int)) (tgt := 18) hx hb (sg_n (by omega)) (sg_n (by omega)) dX4_append_13 rfl (fun h13 => by exfalso; omega) (fun h13 => ?_)
  refine lv_iconst (v := nI 0) hx hb dX4_append_16 (by decide) ?_
  exact W.zret hx hb hr rfl (fun tZ ht hW => ⟨_, rfl, rfl, ht⟩) (fun q h => by cases h) dX4_append_17
set_option maxHeartbeats 4000000 in
set_option maxRecDepth 100000 in
theorem c_X4_append (l : Launch) (D : va_G) (cI cO : ClassId) (h : Nat) (ro : Nat) (le : Nat) (ns : Nat) (fL : Nat → Int32) (ra : Nat → Nat) (fR : Nat → Nat → Int32) (n : Nat) (x : Int32) (hns : ns ≤ 8) (hL : fL ns = nI n) (hn : n < 8) : Met l yX4_append (.code yX4_append cX4_append 3 (some .boolean) :: sgT) ({ frames := 0, cells := 0, slots := 0, locals := 0 }) (sgWc D cI cO [.ref h, .int x] (rw9 ra cI fR ++ [(h, .inr (4, [.ref ro, .ref le, .int (nI ns)])), (ro, .inl (cO, 9, .inr (.inr (.inr (.inr (fun j => some (ra j))))))), (le, .inl (cI, 9, .inl fL))])) (va_Qi (fun (r : Int32) (uZ : Unit) => r = nI 1) (fun uZ t => va_P D vwCl (rw9 ra cI (va_up fR ns (upd (fR ns) n x)) ++ [(h, .inr (4, [.ref ro, .ref le, .int (nI ns)])), (ro, .inl (cO, 9, .inr (.inr (.inr (.inr (fun j => some (ra j))))))), (le, .inl (cI, 9, .inl (upd fL ns (nI (n + 1)))))]) t.heap) (xA (rw9 ra cI fR ++ [(h, .inr (4, [.ref ro, .ref le, .int (nI ns)])), (ro, .inl (cO, 9, .inr (.inr (.inr (.inr (fun j => some (ra j))))))), (le, .inl (cI, 9, .inl fL))]))) 0 0 (xA (rw9 ra cI fR ++ [(h, .inr (4, [.ref ro, .ref le, .int (nI ns)])), (ro, .inl (cO, 9, .inr (.inr (.inr (.inr (fun j => some (ra j))))))), (le, .inl (cI, 9, .inl fL))])) := by
  refine Met.ofW (cc := cX4_append) (maxL := 3) (ret := (some .boolean)) (by decide) rfl ?_
  intro pZ eZ sZ mZ argsZ belowZ methZ cZ s₁ BZ hml hv
  obtain ⟨rfl, hP, hK, hD0⟩ := hv
  have hx := BZ.exec
  have hb := BZ.bytes
  have hr := BZ.returns
  have hts : ∀ wZ ∈ sgT, wZ.before ([.ref h, .int x] : List Value).toArray sZ = true := fun wZ h => atoms_spec (ws := (.code yX4_append cX4_append 3 (some .boolean) :: sgT)) BZ.pre wZ (List.mem_cons_of_mem _ h)
  have hown : sZ.vm.findClass RX4 = some mZ.cls := findClass_of_methodNamed BZ.named
  have hlocks := BZ.notSynchronized
  have hD : va_D (xA (rw9 ra cI fR ++ [(h, .inr (4, [.ref ro, .ref le, .int (nI ns)])), (ro, .inl (cO, 9, .inr (.inr (.inr (.inr (fun j => some (ra j))))))), (le, .inl (cI, 9, .inl fL))])) (rw9 ra cI fR ++ [(h, .inr (4, [.ref ro, .ref le, .int (nI ns)])), (ro, .inl (cO, 9, .inr (.inr (.inr (.inr (fun j => some (ra j))))))), (le, .inl (cI, 9, .inl fL))]) := ⟨hD0.1, fun k q h => ⟨k, q.2, h⟩⟩
  generalize hAe : xA (rw9 ra cI fR ++ [(h, .inr (4, [.ref ro, .ref le, .int (nI ns)])), (ro, .inl (cO, 9, .inr (.inr (.inr (.inr (fun j => some (ra j))))))), (le, .inl (cI, 9, .inl fL))]) = A at hD ⊢
  have hS : va_S A sZ.heap sZ.heap [] := va_S.rf
  have hl := lv_entry ([.ref h, .int x]) (n := 3) (Nat.le_of_ble_eq_true rfl)
  rw [lg_entry_eq]
  generalize (lg_sl ([.ref h, .int x]) ++ List.replicate (3 - (lg_sl ([.ref h, .int x])).length) Slot.unset).toArray = ls at hl ⊢
  have hl : lv_has ls 3 [(0, .ref h), (1, .int x)] := hl
  have hP : va_P D vwCl (rw9 ra cI fR ++ [(h, .inr (4, [.ref ro, .ref le, .int (nI ns)])), (ro, .inl (cO, 9, .inr (.inr (.inr (.inr (fun j => some (ra j))))))), (le, .inl (cI, 9, .inl fL))]) sZ.heap := hP
  refine lv_aload_n hx hb dX4_append_0 rfl (lv_at hl 0 rfl) ?_
  refine va_get (D := D) (ci := 4) (v := .ref le) (C := RX4) (T := TX4) (N := 3) hx hb hts hinX4 hown hK.1 hP 9 rfl rfl 1 (by decide) (hts _ fl_X4_16) (fun _ h9 => h9) rfl dX4_append_1 ?_
  refine lv_aload_n hx hb dX4_append_4 rfl (lv_at hl 0 rfl) ?_
  refine va_get (D := D) (ci := 4) (v := .int (nI ns)) (C := RX4) (T := TX4) (N := 3) hx hb hts hinX4 hown hK.1 hP 9 rfl rfl 2 (by decide) (hts _ fl_X4_20) (fun _ h9 => h9) rfl dX4_append_5 ?_
  refine n_iald (v := nI n) hx hb hK.1 hP 11 0 rfl rfl (by omega) (by omega) hL dX4_append_8 ?_
  refine lv_istore_n hx hb dX4_append_9 rfl hl (by decide) rfl (fun ls hl => ?_)
  have hl : lv_has ls 3 [(2, .int (nI n)), (0, .ref h), (1, .int x)] := hl
  refine lv_iload_n hx hb dX4_append_10 rfl (lv_at hl 0 rfl) ?_
  refine lv_bipush (v := nI 8) hx hb dX4_append_11 (by decide) ?_
  refine ci_icmp_ne (X := ((n : Nat) : Int)) (Y := ((8 : Nat) : Int)) (tgt := 18) hx hb (sg_n (by omega)) (sg_n (by omega)) dX4_append_13 rfl (fun h13 => ?_) (fun h13 => by exfalso; omega)
  refine lv_aload_n hx hb dX4_append_18 rfl (lv_at hl 1 rfl) ?_
  refine va_get (D := D) (ci := 4) (v := .ref ro) (C := RX4) (T := TX4) (N := 3) hx hb hts hinX4 hown hK.1 hP 9 rfl rfl 0 (by decide) (hts _ fl_X4_11) (fun _ h9 => h9) rfl dX4_append_19 ?_
  refine lv_aload_n hx hb dX4_append_22 rfl (lv_at hl 1 rfl) ?_
  refine va_get (D := D) (ci := 4) (v := .int (nI ns)) (C := RX4) (T := TX4) (N := 3) hx hb hts hinX4 hown hK.1 hP 9 rfl rfl 2 (by decide) (hts _ fl_X4_20) (fun _ h9 => h9) rfl dX4_append_23 ?_
  refine sg_aald (y := ra ns) hx hb hK hP 10 rfl (by omega) (by omega) rfl dX4_append_26 ?_
  refine lv_iload_n hx hb dX4_append_27 rfl (lv_at hl 0 rfl) ?_
  refine lv_iload_n hx hb dX4_append_28 rfl (lv_at hl 2 rfl) ?_
  refine n_iast hx hb hK.1 hP hD hS ns 0 (rw9_at (by omega)) rfl (by omega) (by omega) dX4_append_29 (fun H locs hP hD hS => ?_)
  rw [rw9_set (by omega)] at hP hD
  have hP : va_P D vwCl (rw9 ra cI (va_up fR ns (upd (fR ns) n x)) ++ [(h, .inr (4, [.ref ro, .ref le, .int (nI ns)])), (ro, .inl (cO, 9, .inr (.inr (.inr (.inr (fun j => some (ra j))))))), (le, .inl (cI, 9, .inl fL))]) H := hP
  have hD : va_D A (rw9 ra cI (va_up fR ns (upd (fR ns) n x)) ++ [(h, .inr (4, [.ref ro, .ref le, .int (nI ns)])), (ro, .inl (cO, 9, .inr (.inr (.inr (.inr (fun j => some (ra j))))))), (le, .inl (cI, 9, .inl fL))]) := hD
  refine lv_aload_n hx hb dX4_append_30 rfl (lv_at hl 1 rfl) ?_
  refine va_get (D := D) (ci := 4) (v := .ref le) (C := RX4) (T := TX4) (N := 3) hx hb hts hinX4 hown hK.1 hP 9 rfl rfl 1 (by decide) (hts _ fl_X4_16) (fun _ h9 => h9) rfl dX4_append_31 ?_
  refine lv_aload_n hx hb dX4_append_34 rfl (lv_at hl 1 rfl) ?_
  refine va_get (D := D) (ci := 4) (v := .int (nI ns)) (C := RX4) (T := TX4) (N := 3) hx hb hts hinX4 hown hK.1 hP 9 rfl rfl 2 (by decide) (hts _ fl_X4_20) (fun _ h9 => h9) rfl dX4_append_35 ?_
  refine lv_iload_n hx hb dX4_append_38 rfl (lv_at hl 0 rfl) ?_
  refine lv_iconst (v := nI 1) hx hb dX4_append_39 (by decide) ?_
  refine n_iadd hx hb dX4_append_40 ?_
  refine n_iast hx hb hK.1 hP hD hS 11 0 rfl rfl (by omega) (by omega) dX4_append_41 (fun H locs hP hD hS => ?_)
  have hP : va_P D vwCl (rw9 ra cI (va_up fR ns (upd (fR ns) n x)) ++ [(h, .inr (4, [.ref ro, .ref le, .int (nI ns)])), (ro, .inl (cO, 9, .inr (.inr (.inr (.inr (fun j => some (ra j))))))), (le, .inl (cI, 9, .inl (upd fL ns (nI (n + 1)))))]) H := hP
  have hD : va_D A (rw9 ra cI (va_up fR ns (upd (fR ns) n x)) ++ [(h, .inr (4, [.ref ro, .ref le, .int (nI ns)])), (ro, .inl (cO, 9, .inr (.inr (.inr (.inr (fun j => some (ra j))))))), (le, .inl (cI, 9, .inl (upd fL ns (nI (n + 1)))))]) := hD
  refine lv_iconst (v := nI 1) hx hb dX4_append_42 (by decide) ?_
  exact W.zret hx hb hr rfl (fun tZ ht hW => ⟨⟨_, (), rfl, rfl, by show va_P D vwCl _ tZ.heap; rw [ht]; exact hP⟩, hS.F ht⟩) hS.2.2 dX4_append_43
set_option maxHeartbeats 4000000 in
set_option maxRecDepth 100000 in
theorem c_X4_symbolAt (l : Launch) (D : va_G) (cI cO : ClassId) (h : Nat) (ro : Nat) (le : Nat) (ns : Nat) (fL : Nat → Int32) (ra : Nat → Nat) (fR : Nat → Nat → Int32) (ln : Nat → Nat) (wd : Nat → Nat → Nat) (x : Int32) (j : Nat) (hns : ns ≤ 8) (hL : fL ns = nI (ln ns)) (hl8 : ln ns ≤ 8) (hW : ∀ i, i < ln ns → fR ns i = nI (wd ns i)) (hxj : x.toInt = (j : Int) - 2) : Met l yX4_symbolAt (.code yX4_symbolAt cX4_symbolAt 2 (some .int) :: sgT) ({ frames := 0, cells := 0, slots := 0, locals := 0 }) (sgPc D cI cO [.ref h, .int x] (rw9 ra cI fR ++ [(h, .inr (4, [.ref ro, .ref le, .int (nI ns)])), (ro, .inl (cO, 9, .inr (.inr (.inr (.inr (fun j => some (ra j))))))), (le, .inl (cI, 9, .inl fL))])) (vp_Si (fun r => r = nI (sgSy ln wd ns j))) 0 0 (fun _ => False) := by
  refine Met.ofW (cc := cX4_symbolAt) (maxL := 2) (ret := (some .int)) (by decide) rfl ?_
  intro pZ eZ sZ mZ argsZ belowZ methZ cZ s₁ BZ hml hv
  obtain ⟨rfl, hP, hK⟩ := hv
  have hx := BZ.exec
  have hb := BZ.bytes
  have hr := BZ.returns
  have hts : ∀ wZ ∈ sgT, wZ.before ([.ref h, .int x] : List Value).toArray sZ = true := fun wZ h => atoms_spec (ws := (.code yX4_symbolAt cX4_symbolAt 2 (some .int) :: sgT)) BZ.pre wZ (List.mem_cons_of_mem _ h)
  have hown : sZ.vm.findClass RX4 = some mZ.cls := findClass_of_methodNamed BZ.named
  have hlocks := BZ.notSynchronized
  have hl := lv_entry ([.ref h, .int x]) (n := 2) (Nat.le_of_ble_eq_true rfl)
  rw [lg_entry_eq]
  generalize (lg_sl ([.ref h, .int x]) ++ List.replicate (2 - (lg_sl ([.ref h, .int x])).length) Slot.unset).toArray = ls at hl ⊢
  have hl : lv_has ls 2 [(0, .ref h), (1, .int x)] := hl
  refine lv_iload_n hx hb dX4_symbolAt_0 rfl (lv_at hl 1 rfl) ?_
  refine ci_if_ge (X := ((j : Int) - 2)) (tgt := 7) hx hb hxj dX4_symbolAt_1 rfl (fun h1 => ?_) (fun h1 => ?_)
  · refine lv_iload_n hx hb dX4_symbolAt_7 rfl (lv_at hl 1 rfl) ?_
    refine lv_aload_n hx hb dX4_symbolAt_8 rfl (lv_at hl 0 rfl) ?_
    refine va_get (D := D) (ci := 4) (v := .ref le) (C := RX4) (T := TX4) (N := 3) hx hb hts hinX4 hown hK.1 hP 9 rfl rfl 1 (by decide) (hts _ fl_X4_16) (fun _ h9 => h9) rfl dX4_symbolAt_9 ?_
    refine lv_aload_n hx hb dX4_symbolAt_12 rfl (lv_at hl 0 rfl) ?_
    refine va_get (D := D) (ci := 4) (v := .int (nI ns)) (C := RX4) (T := TX4) (N := 3) hx hb hts hinX4 hown hK.1 hP 9 rfl rfl 2 (by decide) (hts _ fl_X4_20) (fun _ h9 => h9) rfl dX4_symbolAt_13 ?_
    refine n_iald (v := nI (ln ns)) hx hb hK.1 hP 11 0 rfl rfl (by omega) (by omega) hL dX4_symbolAt_16 ?_
    refine ci_icmp_ge (X := ((j : Int) - 2)) (Y := ((ln ns : Nat) : Int)) (tgt := 34) hx hb hxj (sg_n (by omega)) dX4_symbolAt_17 rfl (fun h17 => ?_) (fun h17 => ?_)
    · refine lv_iconst (v := nI 5) hx hb dX4_symbolAt_34 (by decide) ?_
      exact W.iret hx hb hr (fun tZ ht hW => ⟨_, rfl, (by unfold sgSy; first | rw [if_pos (by omega)] | rw [if_neg (by omega), if_pos (by omega)] | rw [if_neg (by omega), if_neg (by omega)]), ht⟩) (fun q h => by cases h) dX4_symbolAt_35
    · refine lv_aload_n hx hb dX4_symbolAt_20 rfl (lv_at hl 0 rfl) ?_
      refine va_get (D := D) (ci := 4) (v := .ref ro) (C := RX4) (T := TX4) (N := 3) hx hb hts hinX4 hown hK.1 hP 9 rfl rfl 0 (by decide) (hts _ fl_X4_11) (fun _ h9 => h9) rfl dX4_symbolAt_21 ?_
      refine lv_aload_n hx hb dX4_symbolAt_24 rfl (lv_at hl 0 rfl) ?_
      refine va_get (D := D) (ci := 4) (v := .int (nI ns)) (C := RX4) (T := TX4) (N := 3) hx hb hts hinX4 hown hK.1 hP 9 rfl rfl 2 (by decide) (hts _ fl_X4_20) (fun _ h9 => h9) rfl dX4_symbolAt_25 ?_
      refine sg_aald (y := ra ns) hx hb hK hP 10 rfl (by omega) (by omega) rfl dX4_symbolAt_28 ?_
      refine lv_iload_n hx hb dX4_symbolAt_29 rfl (lv_at hl 1 rfl) ?_
      refine sw_i (y := nI (j - 2)) (sg_ofInt (by omega) (by omega)) ?_
      refine n_iald (v := nI (wd ns (j - 2))) hx hb hK.1 hP ns 0 (rw9_at (by omega)) rfl (by omega) (by omega) (hW _ (by omega)) dX4_symbolAt_30 ?_
      refine lv_goto (tgt := 35) hx hb dX4_symbolAt_31 rfl ?_
      exact W.iret hx hb hr (fun tZ ht hW => ⟨_, rfl, (by unfold sgSy; first | rw [if_pos (by omega)] | rw [if_neg (by omega), if_pos (by omega)] | rw [if_neg (by omega), if_neg (by omega)]), ht⟩) (fun q h => by cases h) dX4_symbolAt_35
  · refine lv_bipush (v := nI 6) hx hb dX4_symbolAt_4 (by decide) ?_
    exact W.iret hx hb hr (fun tZ ht hW => ⟨_, rfl, (by unfold sgSy; first | rw [if_pos (by omega)] | rw [if_neg (by omega), if_pos (by omega)] | rw [if_neg (by omega), if_neg (by omega)]), ht⟩) (fun q h => by cases h) dX4_symbolAt_6

/-! the reference: scores in limbs of 16 bits -/
def lmS (lim : Nat → Int32) (q X : Nat) : Nat → Int32 := fun j => if q ≤ j ∧ j < q + 40 then nI (dg 65536 (j - q) X) else lim j
def sgLim (lim : Nat → Int32) (q X : Nat) : Prop := ∀ j, j < 40 → lim (q + j) = nI (dg 65536 j X)
theorem lmS_in {lim : Nat → Int32} {q X j : Nat} (h : j < 40) : lmS lim q X (q + j) = nI (dg 65536 j X) := by
  unfold lmS
  rw [if_pos ⟨by omega, by omega⟩, Nat.add_sub_cancel_left]
theorem lmS_out {lim : Nat → Int32} {q X j : Nat} (h : j < q ∨ q + 40 ≤ j) : lmS lim q X j = lim j := by
  unfold lmS
  rw [if_neg (by omega)]
theorem lmS_of {f lim : Nat → Int32} {q X : Nat} (h1 : ∀ j, j < 40 → f (q + j) = nI (dg 65536 j X)) (h2 : ∀ j, j < q ∨ q + 40 ≤ j → f j = lim j) (j : Nat) : f j = lmS lim q X j := by
  by_cases h : j < q ∨ q + 40 ≤ j
  · rw [lmS_out h, h2 j h]
  · have h3 := h1 (j - q) (by omega)
    have h4 := lmS_in (lim := lim) (q := q) (X := X) (j := j - q) (by omega)
    rw [show q + (j - q) = j by omega] at h3 h4
    rw [h3, h4]
theorem sgLim_S {lim : Nat → Int32} {q X : Nat} : sgLim (lmS lim q X) q X := fun _ h => lmS_in h
theorem sgLim_o {lim : Nat → Int32} {q X r Y : Nat} (h : sgLim lim q X) (hq : q + 40 ≤ r ∨ r + 40 ≤ q) : sgLim (lmS lim r Y) q X := fun j hj => by rw [lmS_out (by omega)]; exact h j hj
theorem sg_zf {f lim : Nat → Int32} {q i : Nat} (h : ∀ j, f j = if q ≤ j ∧ j < q + i then nI 0 else lim j) : ∀ j, upd f (q + i) (nI 0) j = if q ≤ j ∧ j < q + (i + 1) then nI 0 else lim j := by
  intro j
  by_cases e : j = q + i
  · subst e
    rw [pk_us, if_pos ⟨by omega, by omega⟩]
  · rw [pk_un e, h j]
    by_cases h2 : q ≤ j ∧ j < q + i
    · rw [if_pos h2, if_pos ⟨h2.1, by omega⟩]
    · rw [if_neg h2, if_neg (by omega)]
theorem sg_z0 {lim : Nat → Int32} {q : Nat} : ∀ j, lim j = if q ≤ j ∧ j < q + 0 then nI 0 else lim j := fun j => by rw [if_neg (by omega)]
theorem lmS_z {f lim : Nat → Int32} {q : Nat} (h : ∀ j, f j = if q ≤ j ∧ j < q + 40 then nI 0 else lim j) (j : Nat) : f j = lmS lim q 0 j := by
  unfold lmS
  rw [h j, dg_0]
theorem dg16_1 {k : Nat} (h : k ≠ 0) : dg 65536 k 1 = 0 := by
  unfold dg
  rw [Nat.div_eq_of_lt (Nat.one_lt_pow h (by decide))]
theorem lmS_one {f lim : Nat → Int32} {q : Nat} (h : ∀ j, f j = if q ≤ j ∧ j < q + 40 then nI 0 else lim j) (j : Nat) : upd f q (nI 1) j = lmS lim q 1 j := by
  by_cases e : j = q
  · subst e
    have h1 := lmS_in (lim := lim) (q := j) (X := 1) (j := 0) (by omega)
    rw [Nat.add_zero] at h1
    rw [pk_us, h1]
    rfl
  · rw [pk_un e, h j]
    unfold lmS
    by_cases h2 : q ≤ j ∧ j < q + 40
    · rw [if_pos h2, if_pos h2, dg16_1 (by omega)]
    · rw [if_neg h2, if_neg h2]
theorem sg_uq_lt {f g : Nat → Int32} {q i : Nat} {x : Int32} (h : ∀ j, j < i → f (q + j) = g j) (hx : x = g i) : ∀ j, j < i + 1 → upd f (q + i) x (q + j) = g j := by
  intro j hj
  by_cases e : j = i
  · subst e; rw [pk_us]; exact hx
  · rw [pk_un (by omega)]; exact h j (by omega)
theorem sg_uq_ge {f g : Nat → Int32} {q i n : Nat} {x : Int32} (h : ∀ j, i ≤ j → j < n → f (q + j) = g j) : ∀ j, i + 1 ≤ j → j < n → upd f (q + i) x (q + j) = g j := by
  intro j hj hn
  rw [pk_un (by omega)]
  exact h j (by omega) hn
theorem sg_uq_out {f lim : Nat → Int32} {q i : Nat} {x : Int32} (hi : i < 40) (h : ∀ j, j < q ∨ q + 40 ≤ j → f j = lim j) : ∀ j, j < q ∨ q + 40 ≤ j → upd f (q + i) x j = lim j := by
  intro j hj
  rw [pk_un (by omega)]
  exact h j hj
theorem lmS_swap (lim : Nat → Int32) (A A' B j : Nat) : lmS (lmS (lmS lim 0 A) 40 B) 0 A' j = lmS (lmS lim 0 A') 40 B j := by
  unfold lmS
  by_cases h1 : 0 ≤ j ∧ j < 0 + 40
  · rw [if_pos h1, if_neg (by omega), if_pos h1]
  · rw [if_neg h1]
    by_cases h2 : 40 ≤ j ∧ j < 40 + 40
    · rw [if_pos h2, if_pos h2]
    · rw [if_neg h2, if_neg h1, if_neg h2, if_neg h1]
theorem lmS_twice (lim : Nat → Int32) (q A A' j : Nat) : lmS (lmS lim q A) q A' j = lmS lim q A' j := by
  unfold lmS
  by_cases h1 : q ≤ j ∧ j < q + 40
  · rw [if_pos h1, if_pos h1]
  · rw [if_neg h1, if_neg h1, if_neg h1]
theorem lmS_keep {f lim : Nat → Int32} {A B : Nat} (h : ∀ j, f j = if 80 ≤ j ∧ j < 80 + 80 then lmS (lmS lim 0 A) 40 B (j - 80) else lmS (lmS lim 0 A) 40 B j) (j : Nat) : f j = lmS (lmS (lmS (lmS lim 0 A) 40 B) 80 A) 120 B j := by
  rw [h j]
  by_cases h1 : 80 ≤ j ∧ j < 80 + 80
  · rw [if_pos h1]
    by_cases h2 : j < 120
    · rw [lmS_out (q := 120) (by omega)]
      have e1 := lmS_in (lim := lmS (lmS lim 0 A) 40 B) (q := 80) (X := A) (j := j - 80) (by omega)
      rw [show 80 + (j - 80) = j by omega] at e1
      rw [e1, lmS_out (q := 40) (by omega)]
      have e2 := lmS_in (lim := lim) (q := 0) (X := A) (j := j - 80) (by omega)
      rw [Nat.zero_add] at e2
      exact e2
    · have e1 := lmS_in (lim := lmS (lmS (lmS lim 0 A) 40 B) 80 A) (q := 120) (X := B) (j := j - 120) (by omega)
      rw [show 120 + (j - 120) = j by omega] at e1
      rw [e1]
      have e2 := lmS_in (lim := lmS lim 0 A) (q := 40) (X := B) (j := j - 120) (by omega)
      rw [show 40 + (j - 120) = j - 80 by omega] at e2
      exact e2
  · rw [if_neg h1, lmS_out (q := 120) (by omega), lmS_out (q := 80) (by omega)]
theorem sg_kf {f L : Nat → Int32} {i : Nat} (hi : i < 80) (h : ∀ j, f j = if 80 ≤ j ∧ j < 80 + i then L (j - 80) else L j) : ∀ j, upd f (80 + i) (L i) j = if 80 ≤ j ∧ j < 80 + (i + 1) then L (j - 80) else L j := by
  intro j
  by_cases e : j = 80 + i
  · subst e
    rw [pk_us, if_pos ⟨by omega, by omega⟩, Nat.add_sub_cancel_left]
  · rw [pk_un e, h j]
    by_cases h2 : 80 ≤ j ∧ j < 80 + i
    · rw [if_pos h2, if_pos ⟨h2.1, by omega⟩]
    · rw [if_neg h2, if_neg (by omega)]
theorem sg_pw {X : Nat} (h : X < 4294967296 ^ 9) : X < 65536 ^ 40 := Nat.lt_of_lt_of_le h (by decide +kernel)
theorem sg_pw2 {X Y : Nat} (hX : X < 4294967296 ^ 9) (hY : Y < 4294967296 ^ 9) : X * Y < 65536 ^ 40 := Nat.lt_of_lt_of_le (sg_mul9 hX hY) (by decide +kernel)
theorem sg_dec2 {t : Nat} (h : 1 ≤ t) : (nI t - nI 1) - nI 1 = nI (t - 1) - nI 1 := by rw [pk_sub h]
set_option maxHeartbeats 4000000 in
set_option maxRecDepth 100000 in
theorem c_X6_setOne (l : Launch) (D : va_G) (cI cO : ClassId) (m : Nat) (me : Nat) (ml : Nat) (mw : Nat) (wa : Nat) (wb : Nat) (wf : Nat) (li : Nat) (ord : Nat) (ns : Nat) (ev : Int32) (y0 : Int64) (y1 : Int64) (ge : Nat → Int32) (gL : Nat → Int32) (gW : Nat → Int32) (ga : Nat → Int32) (gb : Nat → Int32) (gf : Nat → Int32) (lim : Nat → Int32) (q : Nat) (hq : q + 40 ≤ 240) : Met l yX6_setOne (.code yX6_setOne cX6_setOne 3 none :: sgT) ({ frames := 0, cells := 0, slots := 0, locals := 0 }) (sgWc D cI cO [.ref m, .int (nI q)] [(m, .inr (6, [.int (nI ord), .ref me, .int (nI ns), .ref ml, .ref mw, .int ev, .ref wa, .ref wb, .ref wf, .long y0, .long y1, .ref li])), (me, .inl (cI, 4, .inl ge)), (ml, .inl (cI, 9, .inl gL)), (mw, .inl (cI, 72, .inl gW)), (wa, .inl (cI, 72, .inl ga)), (wb, .inl (cI, 72, .inl gb)), (wf, .inl (cI, 72, .inl gf)), (li, .inl (cI, 240, .inl lim))]) (va_Qv (fun uZ : Unit => True) (fun uZ t => va_P D vwCl [(m, .inr (6, [.int (nI ord), .ref me, .int (nI ns), .ref ml, .ref mw, .int ev, .ref wa, .ref wb, .ref wf, .long y0, .long y1, .ref li])), (me, .inl (cI, 4, .inl ge)), (ml, .inl (cI, 9, .inl gL)), (mw, .inl (cI, 72, .inl gW)), (wa, .inl (cI, 72, .inl ga)), (wb, .inl (cI, 72, .inl gb)), (wf, .inl (cI, 72, .inl gf)), (li, .inl (cI, 240, .inl (lmS lim q 1)))] t.heap) (xA [(m, .inr (6, [.int (nI ord), .ref me, .int (nI ns), .ref ml, .ref mw, .int ev, .ref wa, .ref wb, .ref wf, .long y0, .long y1, .ref li])), (me, .inl (cI, 4, .inl ge)), (ml, .inl (cI, 9, .inl gL)), (mw, .inl (cI, 72, .inl gW)), (wa, .inl (cI, 72, .inl ga)), (wb, .inl (cI, 72, .inl gb)), (wf, .inl (cI, 72, .inl gf)), (li, .inl (cI, 240, .inl lim))])) 0 0 (xA [(m, .inr (6, [.int (nI ord), .ref me, .int (nI ns), .ref ml, .ref mw, .int ev, .ref wa, .ref wb, .ref wf, .long y0, .long y1, .ref li])), (me, .inl (cI, 4, .inl ge)), (ml, .inl (cI, 9, .inl gL)), (mw, .inl (cI, 72, .inl gW)), (wa, .inl (cI, 72, .inl ga)), (wb, .inl (cI, 72, .inl gb)), (wf, .inl (cI, 72, .inl gf)), (li, .inl (cI, 240, .inl lim))]) := by
  refine Met.ofW (cc := cX6_setOne) (maxL := 3) (ret := none) (by decide) rfl ?_
  intro pZ eZ sZ mZ argsZ belowZ methZ cZ s₁ BZ hml hv
  obtain ⟨rfl, hP, hK, hD0⟩ := hv
  have hx := BZ.exec
  have hb := BZ.bytes
  have hr := BZ.returns
  have hts : ∀ wZ ∈ sgT, wZ.before ([.ref m, .int (nI q)] : List Value).toArray sZ = true := fun wZ h => atoms_spec (ws := (.code yX6_setOne cX6_setOne 3 none :: sgT)) BZ.pre wZ (List.mem_cons_of_mem _ h)
  have hown : sZ.vm.findClass RX6 = some mZ.cls := findClass_of_methodNamed BZ.named
  have hlocks := BZ.notSynchronized
  have hD : va_D (xA [(m, .inr (6, [.int (nI ord), .ref me, .int (nI ns), .ref ml, .ref mw, .int ev, .ref wa, .ref wb, .ref wf, .long y0, .long y1, .ref li])), (me, .inl (cI, 4, .inl ge)), (ml, .inl (cI, 9, .inl gL)), (mw, .inl (cI, 72, .inl gW)), (wa, .inl (cI, 72, .inl ga)), (wb, .inl (cI, 72, .inl gb)), (wf, .inl (cI, 72, .inl gf)), (li, .inl (cI, 240, .inl lim))]) [(m, .inr (6, [.int (nI ord), .ref me, .int (nI ns), .ref ml, .ref mw, .int ev, .ref wa, .ref wb, .ref wf, .long y0, .long y1, .ref li])), (me, .inl (cI, 4, .inl ge)), (ml, .inl (cI, 9, .inl gL)), (mw, .inl (cI, 72, .inl gW)), (wa, .inl (cI, 72, .inl ga)), (wb, .inl (cI, 72, .inl gb)), (wf, .inl (cI, 72, .inl gf)), (li, .inl (cI, 240, .inl lim))] := ⟨hD0.1, fun k q h => ⟨k, q.2, h⟩⟩
  generalize hAe : xA [(m, .inr (6, [.int (nI ord), .ref me, .int (nI ns), .ref ml, .ref mw, .int ev, .ref wa, .ref wb, .ref wf, .long y0, .long y1, .ref li])), (me, .inl (cI, 4, .inl ge)), (ml, .inl (cI, 9, .inl gL)), (mw, .inl (cI, 72, .inl gW)), (wa, .inl (cI, 72, .inl ga)), (wb, .inl (cI, 72, .inl gb)), (wf, .inl (cI, 72, .inl gf)), (li, .inl (cI, 240, .inl lim))] = A at hD ⊢
  have hS : va_S A sZ.heap sZ.heap [] := va_S.rf
  have hl := lv_entry ([.ref m, .int (nI q)]) (n := 3) (Nat.le_of_ble_eq_true rfl)
  rw [lg_entry_eq]
  generalize (lg_sl ([.ref m, .int (nI q)]) ++ List.replicate (3 - (lg_sl ([.ref m, .int (nI q)])).length) Slot.unset).toArray = ls at hl ⊢
  have hl : lv_has ls 3 [(0, .ref m), (1, .int (nI q))] := hl
  have hP : va_P D vwCl [(m, .inr (6, [.int (nI ord), .ref me, .int (nI ns), .ref ml, .ref mw, .int ev, .ref wa, .ref wb, .ref wf, .long y0, .long y1, .ref li])), (me, .inl (cI, 4, .inl ge)), (ml, .inl (cI, 9, .inl gL)), (mw, .inl (cI, 72, .inl gW)), (wa, .inl (cI, 72, .inl ga)), (wb, .inl (cI, 72, .inl gb)), (wf, .inl (cI, 72, .inl gf)), (li, .inl (cI, 240, .inl lim))] sZ.heap := hP
  refine lv_iconst (v := nI 0) hx hb dX6_setOne_0 (by decide) ?_
  refine lv_istore_n hx hb dX6_setOne_1 rfl hl (by decide) rfl (fun ls hl => ?_)
  have hl : lv_has ls 3 [(2, .int (nI 0)), (0, .ref m), (1, .int (nI q))] := hl
  refine sw_loop (I := fun kM ls H locs => ∃ (i : Nat) (f : Nat → Int32), kM = 40 - i ∧ lv_has ls 3 [(2, .int (nI i)), (0, .ref m), (1, .int (nI q))] ∧ va_P D vwCl [(m, .inr (6, [.int (nI ord), .ref me, .int (nI ns), .ref ml, .ref mw, .int ev, .ref wa, .ref wb, .ref wf, .long y0, .long y1, .ref li])), (me, .inl (cI, 4, .inl ge)), (ml, .inl (cI, 9, .inl gL)), (mw, .inl (cI, 72, .inl gW)), (wa, .inl (cI, 72, .inl ga)), (wb, .inl (cI, 72, .inl gb)), (wf, .inl (cI, 72, .inl gf)), (li, .inl (cI, 240, .inl f))] H ∧ va_D A [(m, .inr (6, [.int (nI ord), .ref me, .int (nI ns), .ref ml, .ref mw, .int ev, .ref wa, .ref wb, .ref wf, .long y0, .long y1, .ref li])), (me, .inl (cI, 4, .inl ge)), (ml, .inl (cI, 9, .inl gL)), (mw, .inl (cI, 72, .inl gW)), (wa, .inl (cI, 72, .inl ga)), (wb, .inl (cI, 72, .inl gb)), (wf, .inl (cI, 72, .inl gf)), (li, .inl (cI, 240, .inl f))] ∧ va_S A sZ.heap H locs ∧ (i ≤ 40) ∧ (∀ j, f j = if q ≤ j ∧ j < q + i then nI 0 else lim j)) ?_ _ ⟨0, lim, rfl, hl, hP, hD, hS, by omega, sg_z0⟩
  intro kM ls H locs hI ih2
  obtain ⟨i, f, hkM, hl, hP, hD, hS, hi, hf⟩ := hI
  refine lv_iload_n hx hb dX6_setOne_2 rfl (lv_at hl 0 rfl) ?_
  refine lv_bipush (v := nI 40) hx hb dX6_setOne_3 (by decide) ?_
  refine ci_icmp_ge (X := ((i : Nat) : Int)) (Y := ((40 : Nat) : Int)) (tgt := 23) hx hb (sg_n (by omega)) (sg_n (by omega)) dX6_setOne_5 rfl (fun h5 => ?_) (fun h5 => ?_)
  · have hi40 : i = 40 := by omega
    subst hi40
    refine lv_aload_n hx hb dX6_setOne_23 rfl (lv_at hl 1 rfl) ?_
    refine va_get (D := D) (ci := 6) (v := .ref li) (C := RX6) (T := TX6) (N := 12) hx hb hts hinX6 hown hK.1 hP 0 rfl rfl 11 (by decide) (hts _ fl_X6_32) (fun _ h9 => h9) rfl dX6_setOne_24 ?_
    refine lv_iload_n hx hb dX6_setOne_27 rfl (lv_at hl 2 rfl) ?_
    refine lv_iconst (v := nI 1) hx hb dX6_setOne_28 (by decide) ?_
    refine n_iast hx hb hK.1 hP hD hS 7 0 rfl rfl (by omega) (by omega) dX6_setOne_29 (fun H locs hP hD hS => ?_)
    have hP : va_P D vwCl [(m, .inr (6, [.int (nI ord), .ref me, .int (nI ns), .ref ml, .ref mw, .int ev, .ref wa, .ref wb, .ref wf, .long y0, .long y1, .ref li])), (me, .inl (cI, 4, .inl ge)), (ml, .inl (cI, 9, .inl gL)), (mw, .inl (cI, 72, .inl gW)), (wa, .inl (cI, 72, .inl ga)), (wb, .inl (cI, 72, .inl gb)), (wf, .inl (cI, 72, .inl gf)), (li, .inl (cI, 240, .inl (upd f q (nI 1))))] H := hP
    have hD : va_D A [(m, .inr (6, [.int (nI ord), .ref me, .int (nI ns), .ref ml, .ref mw, .int ev, .ref wa, .ref wb, .ref wf, .long y0, .long y1, .ref li])), (me, .inl (cI, 4, .inl ge)), (ml, .inl (cI, 9, .inl gL)), (mw, .inl (cI, 72, .inl gW)), (wa, .inl (cI, 72, .inl ga)), (wb, .inl (cI, 72, .inl gb)), (wf, .inl (cI, 72, .inl gf)), (li, .inl (cI, 240, .inl (upd f q (nI 1))))] := hD
    have hP := sg_arr (g := lmS lim q 1) 7 hP rfl (fun j _ => lmS_one hf j)
    have hD := sgD_adr (ws := [(m, .inr (6, [.int (nI ord), .ref me, .int (nI ns), .ref ml, .ref mw, .int ev, .ref wa, .ref wb, .ref wf, .long y0, .long y1, .ref li])), (me, .inl (cI, 4, .inl ge)), (ml, .inl (cI, 9, .inl gL)), (mw, .inl (cI, 72, .inl gW)), (wa, .inl (cI, 72, .inl ga)), (wb, .inl (cI, 72, .inl gb)), (wf, .inl (cI, 72, .inl gf)), (li, .inl (cI, 240, .inl (upd f q (nI 1))))]) (ws' := [(m, .inr (6, [.int (nI ord), .ref me, .int (nI ns), .ref ml, .ref mw, .int ev, .ref wa, .ref wb, .ref wf, .long y0, .long y1, .ref li])), (me, .inl (cI, 4, .inl ge)), (ml, .inl (cI, 9, .inl gL)), (mw, .inl (cI, 72, .inl gW)), (wa, .inl (cI, 72, .inl ga)), (wb, .inl (cI, 72, .inl gb)), (wf, .inl (cI, 72, .inl gf)), (li, .inl (cI, 240, .inl (lmS lim q 1)))]) rfl hD
    have hP : va_P D vwCl [(m, .inr (6, [.int (nI ord), .ref me, .int (nI ns), .ref ml, .ref mw, .int ev, .ref wa, .ref wb, .ref wf, .long y0, .long y1, .ref li])), (me, .inl (cI, 4, .inl ge)), (ml, .inl (cI, 9, .inl gL)), (mw, .inl (cI, 72, .inl gW)), (wa, .inl (cI, 72, .inl ga)), (wb, .inl (cI, 72, .inl gb)), (wf, .inl (cI, 72, .inl gf)), (li, .inl (cI, 240, .inl (lmS lim q 1)))] H := hP
    have hD : va_D A [(m, .inr (6, [.int (nI ord), .ref me, .int (nI ns), .ref ml, .ref mw, .int ev, .ref wa, .ref wb, .ref wf, .long y0, .long y1, .ref li])), (me, .inl (cI, 4, .inl ge)), (ml, .inl (cI, 9, .inl gL)), (mw, .inl (cI, 72, .inl gW)), (wa, .inl (cI, 72, .inl ga)), (wb, .inl (cI, 72, .inl gb)), (wf, .inl (cI, 72, .inl gf)), (li, .inl (cI, 240, .inl (lmS lim q 1)))] := hD
    exact W.vret hx hb hr (fun tZ ht hW => ⟨⟨(), rfl, trivial, by show va_P D vwCl _ tZ.heap; rw [ht]; exact hP⟩, hS.F ht⟩) hS.2.2 dX6_setOne_30
  · refine lv_aload_n hx hb dX6_setOne_8 rfl (lv_at hl 1 rfl) ?_
    refine va_get (D := D) (ci := 6) (v := .ref li) (C := RX6) (T := TX6) (N := 12) hx hb hts hinX6 hown hK.1 hP 0 rfl rfl 11 (by decide) (hts _ fl_X6_32) (fun _ h9 => h9) rfl dX6_setOne_9 ?_
    refine lv_iload_n hx hb dX6_setOne_12 rfl (lv_at hl 2 rfl) ?_
    refine lv_iload_n hx hb dX6_setOne_13 rfl (lv_at hl 0 rfl) ?_
    refine n_iadd hx hb dX6_setOne_14 ?_
    refine lv_iconst (v := nI 0) hx hb dX6_setOne_15 (by decide) ?_
    refine n_iast hx hb hK.1 hP hD hS 7 0 rfl rfl (by omega) (by omega) dX6_setOne_16 (fun H locs hP hD hS => ?_)
    have hP : va_P D vwCl [(m, .inr (6, [.int (nI ord), .ref me, .int (nI ns), .ref ml, .ref mw, .int ev, .ref wa, .ref wb, .ref wf, .long y0, .long y1, .ref li])), (me, .inl (cI, 4, .inl ge)), (ml, .inl (cI, 9, .inl gL)), (mw, .inl (cI, 72, .inl gW)), (wa, .inl (cI, 72, .inl ga)), (wb, .inl (cI, 72, .inl gb)), (wf, .inl (cI, 72, .inl gf)), (li, .inl (cI, 240, .inl (upd f (q + i) (nI 0))))] H := hP
    have hD : va_D A [(m, .inr (6, [.int (nI ord), .ref me, .int (nI ns), .ref ml, .ref mw, .int ev, .ref wa, .ref wb, .ref wf, .long y0, .long y1, .ref li])), (me, .inl (cI, 4, .inl ge)), (ml, .inl (cI, 9, .inl gL)), (mw, .inl (cI, 72, .inl gW)), (wa, .inl (cI, 72, .inl ga)), (wb, .inl (cI, 72, .inl gb)), (wf, .inl (cI, 72, .inl gf)), (li, .inl (cI, 240, .inl (upd f (q + i) (nI 0))))] := hD
    refine lv_iinc (v := nI (i + 1)) hx hb dX6_setOne_17 hl (k := 0) rfl (sg_inc _) (by decide) rfl (fun ls hl => ?_)
    have hl : lv_has ls 3 [(2, .int (nI (i + 1))), (0, .ref m), (1, .int (nI q))] := hl
    refine lv_goto (tgt := 2) hx hb dX6_setOne_20 rfl ?_
    exact ih2 _ _ _ _ ⟨i + 1, upd f (q + i) (nI 0), rfl, lv_sub hl [0, 1, 2] rfl, hP, hD, hS, by omega, sg_zf hf⟩ (by omega)
set_option maxHeartbeats 4000000 in
set_option maxRecDepth 100000 in
theorem c_X6_times (l : Launch) (D : va_G) (cI cO : ClassId) (m : Nat) (me : Nat) (ml : Nat) (mw : Nat) (wa : Nat) (wb : Nat) (wf : Nat) (li : Nat) (ord : Nat) (ns : Nat) (ev : Int32) (y0 : Int64) (y1 : Int64) (ge : Nat → Int32) (gL : Nat → Int32) (gW : Nat → Int32) (ga : Nat → Int32) (gb : Nat → Int32) (gf : Nat → Int32) (lim : Nat → Int32) (q : Nat) (X : Nat) (k : Nat) (hq : q + 40 ≤ 240) (hk : k < 2147483648) (hX : sgLim lim q X) : Met l yX6_times (.code yX6_times cX6_times 9 none :: sgT) ({ frames := 0, cells := 0, slots := 0, locals := 0 }) (sgWc D cI cO [.ref m, .int (nI q), .long (lN k)] [(m, .inr (6, [.int (nI ord), .ref me, .int (nI ns), .ref ml, .ref mw, .int ev, .ref wa, .ref wb, .ref wf, .long y0, .long y1, .ref li])), (me, .inl (cI, 4, .inl ge)), (ml, .inl (cI, 9, .inl gL)), (mw, .inl (cI, 72, .inl gW)), (wa, .inl (cI, 72, .inl ga)), (wb, .inl (cI, 72, .inl gb)), (wf, .inl (cI, 72, .inl gf)), (li, .inl (cI, 240, .inl lim))]) (va_Qv (fun uZ : Unit => True) (fun uZ t => va_P D vwCl [(m, .inr (6, [.int (nI ord), .ref me, .int (nI ns), .ref ml, .ref mw, .int ev, .ref wa, .ref wb, .ref wf, .long y0, .long y1, .ref li])), (me, .inl (cI, 4, .inl ge)), (ml, .inl (cI, 9, .inl gL)), (mw, .inl (cI, 72, .inl gW)), (wa, .inl (cI, 72, .inl ga)), (wb, .inl (cI, 72, .inl gb)), (wf, .inl (cI, 72, .inl gf)), (li, .inl (cI, 240, .inl (lmS lim q (k * X))))] t.heap) (xA [(m, .inr (6, [.int (nI ord), .ref me, .int (nI ns), .ref ml, .ref mw, .int ev, .ref wa, .ref wb, .ref wf, .long y0, .long y1, .ref li])), (me, .inl (cI, 4, .inl ge)), (ml, .inl (cI, 9, .inl gL)), (mw, .inl (cI, 72, .inl gW)), (wa, .inl (cI, 72, .inl ga)), (wb, .inl (cI, 72, .inl gb)), (wf, .inl (cI, 72, .inl gf)), (li, .inl (cI, 240, .inl lim))])) 0 0 (xA [(m, .inr (6, [.int (nI ord), .ref me, .int (nI ns), .ref ml, .ref mw, .int ev, .ref wa, .ref wb, .ref wf, .long y0, .long y1, .ref li])), (me, .inl (cI, 4, .inl ge)), (ml, .inl (cI, 9, .inl gL)), (mw, .inl (cI, 72, .inl gW)), (wa, .inl (cI, 72, .inl ga)), (wb, .inl (cI, 72, .inl gb)), (wf, .inl (cI, 72, .inl gf)), (li, .inl (cI, 240, .inl lim))]) := by
  refine Met.ofW (cc := cX6_times) (maxL := 9) (ret := none) (by decide) rfl ?_
  intro pZ eZ sZ mZ argsZ belowZ methZ cZ s₁ BZ hml hv
  obtain ⟨rfl, hP, hK, hD0⟩ := hv
  have hx := BZ.exec
  have hb := BZ.bytes
  have hr := BZ.returns
  have hts : ∀ wZ ∈ sgT, wZ.before ([.ref m, .int (nI q), .long (lN k)] : List Value).toArray sZ = true := fun wZ h => atoms_spec (ws := (.code yX6_times cX6_times 9 none :: sgT)) BZ.pre wZ (List.mem_cons_of_mem _ h)
  have hown : sZ.vm.findClass RX6 = some mZ.cls := findClass_of_methodNamed BZ.named
  have hlocks := BZ.notSynchronized
  have hD : va_D (xA [(m, .inr (6, [.int (nI ord), .ref me, .int (nI ns), .ref ml, .ref mw, .int ev, .ref wa, .ref wb, .ref wf, .long y0, .long y1, .ref li])), (me, .inl (cI, 4, .inl ge)), (ml, .inl (cI, 9, .inl gL)), (mw, .inl (cI, 72, .inl gW)), (wa, .inl (cI, 72, .inl ga)), (wb, .inl (cI, 72, .inl gb)), (wf, .inl (cI, 72, .inl gf)), (li, .inl (cI, 240, .inl lim))]) [(m, .inr (6, [.int (nI ord), .ref me, .int (nI ns), .ref ml, .ref mw, .int ev, .ref wa, .ref wb, .ref wf, .long y0, .long y1, .ref li])), (me, .inl (cI, 4, .inl ge)), (ml, .inl (cI, 9, .inl gL)), (mw, .inl (cI, 72, .inl gW)), (wa, .inl (cI, 72, .inl ga)), (wb, .inl (cI, 72, .inl gb)), (wf, .inl (cI, 72, .inl gf)), (li, .inl (cI, 240, .inl lim))] := ⟨hD0.1, fun k q h => ⟨k, q.2, h⟩⟩
  generalize hAe : xA [(m, .inr (6, [.int (nI ord), .ref me, .int (nI ns), .ref ml, .ref mw, .int ev, .ref wa, .ref wb, .ref wf, .long y0, .long y1, .ref li])), (me, .inl (cI, 4, .inl ge)), (ml, .inl (cI, 9, .inl gL)), (mw, .inl (cI, 72, .inl gW)), (wa, .inl (cI, 72, .inl ga)), (wb, .inl (cI, 72, .inl gb)), (wf, .inl (cI, 72, .inl gf)), (li, .inl (cI, 240, .inl lim))] = A at hD ⊢
  have hS : va_S A sZ.heap sZ.heap [] := va_S.rf
  have hl := lv_entry ([.ref m, .int (nI q), .long (lN k)]) (n := 9) (Nat.le_of_ble_eq_true rfl)
  rw [lg_entry_eq]
  generalize (lg_sl ([.ref m, .int (nI q), .long (lN k)]) ++ List.replicate (9 - (lg_sl ([.ref m, .int (nI q), .long (lN k)])).length) Slot.unset).toArray = ls at hl ⊢
  have hl : lv_has ls 9 [(0, .ref m), (1, .int (nI q)), (2, .long (lN k))] := hl
  have hP : va_P D vwCl [(m, .inr (6, [.int (nI ord), .ref me, .int (nI ns), .ref ml, .ref mw, .int ev, .ref wa, .ref wb, .ref wf, .long y0, .long y1, .ref li])), (me, .inl (cI, 4, .inl ge)), (ml, .inl (cI, 9, .inl gL)), (mw, .inl (cI, 72, .inl gW)), (wa, .inl (cI, 72, .inl ga)), (wb, .inl (cI, 72, .inl gb)), (wf, .inl (cI, 72, .inl gf)), (li, .inl (cI, 240, .inl lim))] sZ.heap := hP
  refine lv_lconst (v := lN 0) hx hb dX6_times_0 (by decide) ?_
  refine lv_lstore hx hb dX6_times_1 hl (by decide) rfl (fun ls hl => ?_)
  have hl : lv_has ls 9 [(4, .long (lN 0)), (0, .ref m), (1, .int (nI q)), (2, .long (lN k))] := hl
  refine lv_iconst (v := nI 0) hx hb dX6_times_3 (by decide) ?_
  refine lv_istore hx hb dX6_times_4 hl (by decide) rfl (fun ls hl => ?_)
  have hl : lv_has ls 9 [(6, .int (nI 0)), (4, .long (lN 0)), (0, .ref m), (1, .int (nI q)), (2, .long (lN k))] := hl
  refine sw_loop (I := fun kM ls H locs => ∃ (i : Nat) (cy : Nat) (f : Nat → Int32), kM = 40 - i ∧ lv_has ls 9 [(6, .int (nI i)), (4, .long (lN cy)), (0, .ref m), (1, .int (nI q)), (2, .long (lN k))] ∧ va_P D vwCl [(m, .inr (6, [.int (nI ord), .ref me, .int (nI ns), .ref ml, .ref mw, .int ev, .ref wa, .ref wb, .ref wf, .long y0, .long y1, .ref li])), (me, .inl (cI, 4, .inl ge)), (ml, .inl (cI, 9, .inl gL)), (mw, .inl (cI, 72, .inl gW)), (wa, .inl (cI, 72, .inl ga)), (wb, .inl (cI, 72, .inl gb)), (wf, .inl (cI, 72, .inl gf)), (li, .inl (cI, 240, .inl f))] H ∧ va_D A [(m, .inr (6, [.int (nI ord), .ref me, .int (nI ns), .ref ml, .ref mw, .int ev, .ref wa, .ref wb, .ref wf, .long y0, .long y1, .ref li])), (me, .inl (cI, 4, .inl ge)), (ml, .inl (cI, 9, .inl gL)), (mw, .inl (cI, 72, .inl gW)), (wa, .inl (cI, 72, .inl ga)), (wb, .inl (cI, 72, .inl gb)), (wf, .inl (cI, 72, .inl gf)), (li, .inl (cI, 240, .inl f))] ∧ va_S A sZ.heap H locs ∧ (i ≤ 40) ∧ (cy = dgM 65536 k X i / 65536 ^ i) ∧ (∀ j, j < i → f (q + j) = nI (dg 65536 j (k * X))) ∧ (∀ j, i ≤ j → j < 40 → f (q + j) = nI (dg 65536 j X)) ∧ (∀ j, j < q ∨ q + 40 ≤ j → f j = lim j)) ?_ _ ⟨0, 0, lim, rfl, hl, hP, hD, hS, by omega, (dgM_0 _ _ _).symm, fun j hj => absurd hj (Nat.not_lt_zero _), fun j _ hj => hX j hj, fun _ _ => rfl⟩
  intro kM ls H locs hI ih6
  obtain ⟨i, cy, f, hkM, hl, hP, hD, hS, hi, hc, hlo, hhi, hout⟩ := hI
  refine lv_iload hx hb dX6_times_6 (lv_at hl 0 rfl) ?_
  refine lv_bipush (v := nI 40) hx hb dX6_times_8 (by decide) ?_
  refine ci_icmp_ge (X := ((i : Nat) : Int)) (Y := ((40 : Nat) : Int)) (tgt := 59) hx hb (sg_n (by omega)) (sg_n (by omega)) dX6_times_10 rfl (fun h10 => ?_) (fun h10 => ?_)
  · have hP := sg_arr (g := lmS lim q (k * X)) 7 hP rfl (fun j _ => lmS_of (fun j hj => hlo j (by omega)) hout j)
    have hD := sgD_adr (ws := [(m, .inr (6, [.int (nI ord), .ref me, .int (nI ns), .ref ml, .ref mw, .int ev, .ref wa, .ref wb, .ref wf, .long y0, .long y1, .ref li])), (me, .inl (cI, 4, .inl ge)), (ml, .inl (cI, 9, .inl gL)), (mw, .inl (cI, 72, .inl gW)), (wa, .inl (cI, 72, .inl ga)), (wb, .inl (cI, 72, .inl gb)), (wf, .inl (cI, 72, .inl gf)), (li, .inl (cI, 240, .inl f))]) (ws' := [(m, .inr (6, [.int (nI ord), .ref me, .int (nI ns), .ref ml, .ref mw, .int ev, .ref wa, .ref wb, .ref wf, .long y0, .long y1, .ref li])), (me, .inl (cI, 4, .inl ge)), (ml, .inl (cI, 9, .inl gL)), (mw, .inl (cI, 72, .inl gW)), (wa, .inl (cI, 72, .inl ga)), (wb, .inl (cI, 72, .inl gb)), (wf, .inl (cI, 72, .inl gf)), (li, .inl (cI, 240, .inl (lmS lim q (k * X))))]) rfl hD
    have hP : va_P D vwCl [(m, .inr (6, [.int (nI ord), .ref me, .int (nI ns), .ref ml, .ref mw, .int ev, .ref wa, .ref wb, .ref wf, .long y0, .long y1, .ref li])), (me, .inl (cI, 4, .inl ge)), (ml, .inl (cI, 9, .inl gL)), (mw, .inl (cI, 72, .inl gW)), (wa, .inl (cI, 72, .inl ga)), (wb, .inl (cI, 72, .inl gb)), (wf, .inl (cI, 72, .inl gf)), (li, .inl (cI, 240, .inl (lmS lim q (k * X))))] H := hP
    have hD : va_D A [(m, .inr (6, [.int (nI ord), .ref me, .int (nI ns), .ref ml, .ref mw, .int ev, .ref wa, .ref wb, .ref wf, .long y0, .long y1, .ref li])), (me, .inl (cI, 4, .inl ge)), (ml, .inl (cI, 9, .inl gL)), (mw, .inl (cI, 72, .inl gW)), (wa, .inl (cI, 72, .inl ga)), (wb, .inl (cI, 72, .inl gb)), (wf, .inl (cI, 72, .inl gf)), (li, .inl (cI, 240, .inl (lmS lim q (k * X))))] := hD
    exact W.vret hx hb hr (fun tZ ht hW => ⟨⟨(), rfl, trivial, by show va_P D vwCl _ tZ.heap; rw [ht]; exact hP⟩, hS.F ht⟩) hS.2.2 dX6_times_59
  · have hdl := dg_lt (B := 65536) (by decide) i X
    have hcy : cy ≤ k := by rw [hc]; exact dgM_le (by decide) _ _ _
    have hmk : dg 65536 i X * k ≤ 65535 * 2147483647 := Nat.mul_le_mul (by omega) (by omega)
    refine lv_aload_n hx hb dX6_times_13 rfl (lv_at hl 2 rfl) ?_
    refine va_get (D := D) (ci := 6) (v := .ref li) (C := RX6) (T := TX6) (N := 12) hx hb hts hinX6 hown hK.1 hP 0 rfl rfl 11 (by decide) (hts _ fl_X6_32) (fun _ h9 => h9) rfl dX6_times_14 ?_
    refine lv_iload_n hx hb dX6_times_17 rfl (lv_at hl 3 rfl) ?_
    refine lv_iload hx hb dX6_times_18 (lv_at hl 0 rfl) ?_
    refine n_iadd hx hb dX6_times_20 ?_
    refine n_iald (v := nI (dg 65536 i X)) hx hb hK.1 hP 7 0 rfl rfl (by omega) (by omega) (hhi i (Nat.le_refl _) (by omega)) dX6_times_21 ?_
    refine n_i2l hx hb (by omega) dX6_times_22 ?_
    refine lv_lload_n hx hb dX6_times_23 rfl (lv_at hl 4 rfl) ?_
    refine n_lmul hx hb dX6_times_24 ?_
    refine lv_lload hx hb dX6_times_25 (lv_at hl 1 rfl) ?_
    refine n_ladd hx hb dX6_times_27 ?_
    refine lv_lstore hx hb dX6_times_28 hl (by decide) rfl (fun ls hl => ?_)
    have hl : lv_has ls 9 [(7, .long (lN (((dg 65536 i X) * k) + cy))), (6, .int (nI i)), (4, .long (lN cy)), (0, .ref m), (1, .int (nI q)), (2, .long (lN k))] := hl
    refine lv_aload_n hx hb dX6_times_30 rfl (lv_at hl 3 rfl) ?_
    refine va_get (D := D) (ci := 6) (v := .ref li) (C := RX6) (T := TX6) (N := 12) hx hb hts hinX6 hown hK.1 hP 0 rfl rfl 11 (by decide) (hts _ fl_X6_32) (fun _ h9 => h9) rfl dX6_times_31 ?_
    refine lv_iload_n hx hb dX6_times_34 rfl (lv_at hl 4 rfl) ?_
    refine lv_iload hx hb dX6_times_35 (lv_at hl 1 rfl) ?_
    refine n_iadd hx hb dX6_times_37 ?_
    refine lv_lload hx hb dX6_times_38 (lv_at hl 0 rfl) ?_
    refine lv_ldc2 (v := lN 65535) hx hb hown (hts _ kl_X6_96) dX6_times_40 ?_
    refine lv_land hx hb dX6_times_43 ?_
    refine sw_l (y := lN ((dg 65536 i X * k + cy) % 65536)) (sg_low16 (by omega)) ?_
    refine n_l2i hx hb dX6_times_44 ?_
    refine n_iast hx hb hK.1 hP hD hS 7 0 rfl rfl (by omega) (by omega) dX6_times_45 (fun H locs hP hD hS => ?_)
    have hP : va_P D vwCl [(m, .inr (6, [.int (nI ord), .ref me, .int (nI ns), .ref ml, .ref mw, .int ev, .ref wa, .ref wb, .ref wf, .long y0, .long y1, .ref li])), (me, .inl (cI, 4, .inl ge)), (ml, .inl (cI, 9, .inl gL)), (mw, .inl (cI, 72, .inl gW)), (wa, .inl (cI, 72, .inl ga)), (wb, .inl (cI, 72, .inl gb)), (wf, .inl (cI, 72, .inl gf)), (li, .inl (cI, 240, .inl (upd f (q + i) (nI ((dg 65536 i X * k + cy) % 65536)))))] H := hP
    have hD : va_D A [(m, .inr (6, [.int (nI ord), .ref me, .int (nI ns), .ref ml, .ref mw, .int ev, .ref wa, .ref wb, .ref wf, .long y0, .long y1, .ref li])), (me, .inl (cI, 4, .inl ge)), (ml, .inl (cI, 9, .inl gL)), (mw, .inl (cI, 72, .inl gW)), (wa, .inl (cI, 72, .inl ga)), (wb, .inl (cI, 72, .inl gb)), (wf, .inl (cI, 72, .inl gf)), (li, .inl (cI, 240, .inl (upd f (q + i) (nI ((dg 65536 i X * k + cy) % 65536)))))] := hD
    refine lv_lload hx hb dX6_times_46 (lv_at hl 0 rfl) ?_
    refine lv_bipush (v := nI 16) hx hb dX6_times_48 (by decide) ?_
    refine lv_lshr hx hb dX6_times_50 rfl ?_
    refine sw_l (y := lN ((dg 65536 i X * k + cy) / 65536)) (sg_hi16 (by omega)) ?_
    refine lv_lstore hx hb dX6_times_51 hl (by decide) rfl (fun ls hl => ?_)
    have hl : lv_has ls 9 [(4, .long (lN ((dg 65536 i X * k + cy) / 65536))), (7, .long (lN (((dg 65536 i X) * k) + cy))), (6, .int (nI i)), (0, .ref m), (1, .int (nI q)), (2, .long (lN k))] := hl
    refine lv_iinc (v := nI (i + 1)) hx hb dX6_times_53 hl (k := 2) rfl (sg_inc _) (by decide) rfl (fun ls hl => ?_)
    have hl : lv_has ls 9 [(6, .int (nI (i + 1))), (4, .long (lN ((dg 65536 i X * k + cy) / 65536))), (7, .long (lN (((dg 65536 i X) * k) + cy))), (0, .ref m), (1, .int (nI q)), (2, .long (lN k))] := hl
    refine lv_goto (tgt := 6) hx hb dX6_times_56 rfl ?_
    exact ih6 _ _ _ _ ⟨i + 1, (dg 65536 i X * k + cy) / 65536, upd f (q + i) (nI ((dg 65536 i X * k + cy) % 65536)), rfl, lv_sub hl [0, 1, 3, 4, 5] rfl, hP, hD, hS, by omega, by rw [hc, dgM_sum (by decide), dgM_carry], sg_uq_lt (g := fun j => nI (dg 65536 j (k * X))) hlo (by rw [hc, dgM_sum (by decide), dgM_dg (by decide)]), sg_uq_ge (g := fun j => nI (dg 65536 j X)) hhi, sg_uq_out (by omega) hout⟩ (by omega)
set_option maxHeartbeats 4000000 in
set_option maxRecDepth 100000 in
theorem c_X6_multiply (l : Launch) (D : va_G) (cI cO : ClassId) (m : Nat) (me : Nat) (ml : Nat) (mw : Nat) (wa : Nat) (wb : Nat) (wf : Nat) (li : Nat) (ord : Nat) (ns : Nat) (ev : Int32) (y0 : Int64) (y1 : Int64) (ge : Nat → Int32) (gL : Nat → Int32) (gW : Nat → Int32) (ga : Nat → Int32) (gb : Nat → Int32) (gf : Nat → Int32) (lim : Nat → Int32) (qa : Nat) (qb : Nat) (qc : Nat) (X : Nat) (Y : Nat) (hqa : qa + 40 ≤ 240) (hqb : qb + 40 ≤ 240) (hqc : qc + 40 ≤ 240) (hap : qa + 40 ≤ qc ∨ qc + 40 ≤ qa) (hbp : qb + 40 ≤ qc ∨ qc + 40 ≤ qb) (hlX : sgLim lim qa X) (hlY : sgLim lim qb Y) (hX40 : X < 65536 ^ 40) : Met l yX6_multiply (.code yX6_multiply cX6_multiply 10 none :: sgT) ({ frames := 0, cells := 0, slots := 0, locals := 0 }) (sgWc D cI cO [.ref m, .int (nI qa), .int (nI qb), .int (nI qc)] [(m, .inr (6, [.int (nI ord), .ref me, .int (nI ns), .ref ml, .ref mw, .int ev, .ref wa, .ref wb, .ref wf, .long y0, .long y1, .ref li])), (me, .inl (cI, 4, .inl ge)), (ml, .inl (cI, 9, .inl gL)), (mw, .inl (cI, 72, .inl gW)), (wa, .inl (cI, 72, .inl ga)), (wb, .inl (cI, 72, .inl gb)), (wf, .inl (cI, 72, .inl gf)), (li, .inl (cI, 240, .inl lim))]) (va_Qv (fun uZ : Unit => True) (fun uZ t => va_P D vwCl [(m, .inr (6, [.int (nI ord), .ref me, .int (nI ns), .ref ml, .ref mw, .int ev, .ref wa, .ref wb, .ref wf, .long y0, .long y1, .ref li])), (me, .inl (cI, 4, .inl ge)), (ml, .inl (cI, 9, .inl gL)), (mw, .inl (cI, 72, .inl gW)), (wa, .inl (cI, 72, .inl ga)), (wb, .inl (cI, 72, .inl gb)), (wf, .inl (cI, 72, .inl gf)), (li, .inl (cI, 240, .inl (lmS lim qc (X * Y))))] t.heap) (xA [(m, .inr (6, [.int (nI ord), .ref me, .int (nI ns), .ref ml, .ref mw, .int ev, .ref wa, .ref wb, .ref wf, .long y0, .long y1, .ref li])), (me, .inl (cI, 4, .inl ge)), (ml, .inl (cI, 9, .inl gL)), (mw, .inl (cI, 72, .inl gW)), (wa, .inl (cI, 72, .inl ga)), (wb, .inl (cI, 72, .inl gb)), (wf, .inl (cI, 72, .inl gf)), (li, .inl (cI, 240, .inl lim))])) 0 0 (xA [(m, .inr (6, [.int (nI ord), .ref me, .int (nI ns), .ref ml, .ref mw, .int ev, .ref wa, .ref wb, .ref wf, .long y0, .long y1, .ref li])), (me, .inl (cI, 4, .inl ge)), (ml, .inl (cI, 9, .inl gL)), (mw, .inl (cI, 72, .inl gW)), (wa, .inl (cI, 72, .inl ga)), (wb, .inl (cI, 72, .inl gb)), (wf, .inl (cI, 72, .inl gf)), (li, .inl (cI, 240, .inl lim))]) := by
  refine Met.ofW (cc := cX6_multiply) (maxL := 10) (ret := none) (by decide) rfl ?_
  intro pZ eZ sZ mZ argsZ belowZ methZ cZ s₁ BZ hml hv
  obtain ⟨rfl, hP, hK, hD0⟩ := hv
  have hx := BZ.exec
  have hb := BZ.bytes
  have hr := BZ.returns
  have hts : ∀ wZ ∈ sgT, wZ.before ([.ref m, .int (nI qa), .int (nI qb), .int (nI qc)] : List Value).toArray sZ = true := fun wZ h => atoms_spec (ws := (.code yX6_multiply cX6_multiply 10 none :: sgT)) BZ.pre wZ (List.mem_cons_of_mem _ h)
  have hown : sZ.vm.findClass RX6 = some mZ.cls := findClass_of_methodNamed BZ.named
  have hlocks := BZ.notSynchronized
  have hD : va_D (xA [(m, .inr (6, [.int (nI ord), .ref me, .int (nI ns), .ref ml, .ref mw, .int ev, .ref wa, .ref wb, .ref wf, .long y0, .long y1, .ref li])), (me, .inl (cI, 4, .inl ge)), (ml, .inl (cI, 9, .inl gL)), (mw, .inl (cI, 72, .inl gW)), (wa, .inl (cI, 72, .inl ga)), (wb, .inl (cI, 72, .inl gb)), (wf, .inl (cI, 72, .inl gf)), (li, .inl (cI, 240, .inl lim))]) [(m, .inr (6, [.int (nI ord), .ref me, .int (nI ns), .ref ml, .ref mw, .int ev, .ref wa, .ref wb, .ref wf, .long y0, .long y1, .ref li])), (me, .inl (cI, 4, .inl ge)), (ml, .inl (cI, 9, .inl gL)), (mw, .inl (cI, 72, .inl gW)), (wa, .inl (cI, 72, .inl ga)), (wb, .inl (cI, 72, .inl gb)), (wf, .inl (cI, 72, .inl gf)), (li, .inl (cI, 240, .inl lim))] := ⟨hD0.1, fun k q h => ⟨k, q.2, h⟩⟩
  generalize hAe : xA [(m, .inr (6, [.int (nI ord), .ref me, .int (nI ns), .ref ml, .ref mw, .int ev, .ref wa, .ref wb, .ref wf, .long y0, .long y1, .ref li])), (me, .inl (cI, 4, .inl ge)), (ml, .inl (cI, 9, .inl gL)), (mw, .inl (cI, 72, .inl gW)), (wa, .inl (cI, 72, .inl ga)), (wb, .inl (cI, 72, .inl gb)), (wf, .inl (cI, 72, .inl gf)), (li, .inl (cI, 240, .inl lim))] = A at hD ⊢
  have hS : va_S A sZ.heap sZ.heap [] := va_S.rf
  have hl := lv_entry ([.ref m, .int (nI qa), .int (nI qb), .int (nI qc)]) (n := 10) (Nat.le_of_ble_eq_true rfl)
  rw [lg_entry_eq]
  generalize (lg_sl ([.ref m, .int (nI qa), .int (nI qb), .int (nI qc)]) ++ List.replicate (10 - (lg_sl ([.ref m, .int (nI qa), .int (nI qb), .int (nI qc)])).length) Slot.unset).toArray = ls at hl ⊢
  have hl : lv_has ls 10 [(0, .ref m), (1, .int (nI qa)), (2, .int (nI qb)), (3, .int (nI qc))] := hl
  have hP : va_P D vwCl [(m, .inr (6, [.int (nI ord), .ref me, .int (nI ns), .ref ml, .ref mw, .int ev, .ref wa, .ref wb, .ref wf, .long y0, .long y1, .ref li])), (me, .inl (cI, 4, .inl ge)), (ml, .inl (cI, 9, .inl gL)), (mw, .inl (cI, 72, .inl gW)), (wa, .inl (cI, 72, .inl ga)), (wb, .inl (cI, 72, .inl gb)), (wf, .inl (cI, 72, .inl gf)), (li, .inl (cI, 240, .inl lim))] sZ.heap := hP
  refine lv_iconst (v := nI 0) hx hb dX6_multiply_0 (by decide) ?_
  refine lv_istore hx hb dX6_multiply_1 hl (by decide) rfl (fun ls hl => ?_)
  have hl : lv_has ls 10 [(4, .int (nI 0)), (0, .ref m), (1, .int (nI qa)), (2, .int (nI qb)), (3, .int (nI qc))] := hl
  refine sw_loop (I := fun kM ls H locs => ∃ (i : Nat) (f : Nat → Int32), kM = 40 - i ∧ lv_has ls 10 [(4, .int (nI i)), (0, .ref m), (1, .int (nI qa)), (2, .int (nI qb)), (3, .int (nI qc))] ∧ va_P D vwCl [(m, .inr (6, [.int (nI ord), .ref me, .int (nI ns), .ref ml, .ref mw, .int ev, .ref wa, .ref wb, .ref wf, .long y0, .long y1, .ref li])), (me, .inl (cI, 4, .inl ge)), (ml, .inl (cI, 9, .inl gL)), (mw, .inl (cI, 72, .inl gW)), (wa, .inl (cI, 72, .inl ga)), (wb, .inl (cI, 72, .inl gb)), (wf, .inl (cI, 72, .inl gf)), (li, .inl (cI, 240, .inl f))] H ∧ va_D A [(m, .inr (6, [.int (nI ord), .ref me, .int (nI ns), .ref ml, .ref mw, .int ev, .ref wa, .ref wb, .ref wf, .long y0, .long y1, .ref li])), (me, .inl (cI, 4, .inl ge)), (ml, .inl (cI, 9, .inl gL)), (mw, .inl (cI, 72, .inl gW)), (wa, .inl (cI, 72, .inl ga)), (wb, .inl (cI, 72, .inl gb)), (wf, .inl (cI, 72, .inl gf)), (li, .inl (cI, 240, .inl f))] ∧ va_S A sZ.heap H locs ∧ (i ≤ 40) ∧ (∀ j, f j = if qc ≤ j ∧ j < qc + i then nI 0 else lim j)) ?_ _ ⟨0, lim, rfl, hl, hP, hD, hS, by omega, sg_z0⟩
  intro kM ls H locs hI ih3
  obtain ⟨i, f, hkM, hl, hP, hD, hS, hi, hf⟩ := hI
  refine lv_iload hx hb dX6_multiply_3 (lv_at hl 0 rfl) ?_
  refine lv_bipush (v := nI 40) hx hb dX6_multiply_5 (by decide) ?_
  refine ci_icmp_ge (X := ((i : Nat) : Int)) (Y := ((40 : Nat) : Int)) (tgt := 26) hx hb (sg_n (by omega)) (sg_n (by omega)) dX6_multiply_7 rfl (fun h7 => ?_) (fun h7 => ?_)
  · have hP := sg_arr (g := lmS lim qc (X % 65536 ^ 0 * Y)) 7 hP rfl (fun j _ => by rw [Nat.pow_zero, Nat.mod_one, Nat.zero_mul]; exact lmS_z (by rw [show i = 40 by omega] at hf; exact hf) j)
    have hD := sgD_adr (ws := [(m, .inr (6, [.int (nI ord), .ref me, .int (nI ns), .ref ml, .ref mw, .int ev, .ref wa, .ref wb, .ref wf, .long y0, .long y1, .ref li])), (me, .inl (cI, 4, .inl ge)), (ml, .inl (cI, 9, .inl gL)), (mw, .inl (cI, 72, .inl gW)), (wa, .inl (cI, 72, .inl ga)), (wb, .inl (cI, 72, .inl gb)), (wf, .inl (cI, 72, .inl gf)), (li, .inl (cI, 240, .inl f))]) (ws' := [(m, .inr (6, [.int (nI ord), .ref me, .int (nI ns), .ref ml, .ref mw, .int ev, .ref wa, .ref wb, .ref wf, .long y0, .long y1, .ref li])), (me, .inl (cI, 4, .inl ge)), (ml, .inl (cI, 9, .inl gL)), (mw, .inl (cI, 72, .inl gW)), (wa, .inl (cI, 72, .inl ga)), (wb, .inl (cI, 72, .inl gb)), (wf, .inl (cI, 72, .inl gf)), (li, .inl (cI, 240, .inl (lmS lim qc (X % 65536 ^ 0 * Y))))]) rfl hD
    have hP : va_P D vwCl [(m, .inr (6, [.int (nI ord), .ref me, .int (nI ns), .ref ml, .ref mw, .int ev, .ref wa, .ref wb, .ref wf, .long y0, .long y1, .ref li])), (me, .inl (cI, 4, .inl ge)), (ml, .inl (cI, 9, .inl gL)), (mw, .inl (cI, 72, .inl gW)), (wa, .inl (cI, 72, .inl ga)), (wb, .inl (cI, 72, .inl gb)), (wf, .inl (cI, 72, .inl gf)), (li, .inl (cI, 240, .inl (lmS lim qc (X % 65536 ^ 0 * Y))))] H := hP
    have hD : va_D A [(m, .inr (6, [.int (nI ord), .ref me, .int (nI ns), .ref ml, .ref mw, .int ev, .ref wa, .ref wb, .ref wf, .long y0, .long y1, .ref li])), (me, .inl (cI, 4, .inl ge)), (ml, .inl (cI, 9, .inl gL)), (mw, .inl (cI, 72, .inl gW)), (wa, .inl (cI, 72, .inl ga)), (wb, .inl (cI, 72, .inl gb)), (wf, .inl (cI, 72, .inl gf)), (li, .inl (cI, 240, .inl (lmS lim qc (X % 65536 ^ 0 * Y))))] := hD
    refine lv_iconst (v := nI 0) hx hb dX6_multiply_26 (by decide) ?_
    refine lv_istore hx hb dX6_multiply_27 hl (by decide) rfl (fun ls hl => ?_)
    have hl : lv_has ls 10 [(4, .int (nI 0)), (0, .ref m), (1, .int (nI qa)), (2, .int (nI qb)), (3, .int (nI qc))] := hl
    refine sw_loop (I := fun kM ls H locs => ∃ (i : Nat), kM = 40 - i ∧ lv_has ls 10 [(4, .int (nI i)), (0, .ref m), (1, .int (nI qa)), (2, .int (nI qb)), (3, .int (nI qc))] ∧ va_P D vwCl [(m, .inr (6, [.int (nI ord), .ref me, .int (nI ns), .ref ml, .ref mw, .int ev, .ref wa, .ref wb, .ref wf, .long y0, .long y1, .ref li])), (me, .inl (cI, 4, .inl ge)), (ml, .inl (cI, 9, .inl gL)), (mw, .inl (cI, 72, .inl gW)), (wa, .inl (cI, 72, .inl ga)), (wb, .inl (cI, 72, .inl gb)), (wf, .inl (cI, 72, .inl gf)), (li, .inl (cI, 240, .inl (lmS lim qc (X % 65536 ^ i * Y))))] H ∧ va_D A [(m, .inr (6, [.int (nI ord), .ref me, .int (nI ns), .ref ml, .ref mw, .int ev, .ref wa, .ref wb, .ref wf, .long y0, .long y1, .ref li])), (me, .inl (cI, 4, .inl ge)), (ml, .inl (cI, 9, .inl gL)), (mw, .inl (cI, 72, .inl gW)), (wa, .inl (cI, 72, .inl ga)), (wb, .inl (cI, 72, .inl gb)), (wf, .inl (cI, 72, .inl gf)), (li, .inl (cI, 240, .inl (lmS lim qc (X % 65536 ^ i * Y))))] ∧ va_S A sZ.heap H locs ∧ (i ≤ 40)) ?_ _ ⟨0, rfl, hl, hP, hD, hS, by omega⟩
    intro kM ls H locs hI ih29
    obtain ⟨i, hkM, hl, hP, hD, hS, hi⟩ := hI
    refine lv_iload hx hb dX6_multiply_29 (lv_at hl 0 rfl) ?_
    refine lv_bipush (v := nI 40) hx hb dX6_multiply_31 (by decide) ?_
    refine ci_icmp_ge (X := ((i : Nat) : Int)) (Y := ((40 : Nat) : Int)) (tgt := 130) hx hb (sg_n (by omega)) (sg_n (by omega)) dX6_multiply_33 rfl (fun h33 => ?_) (fun h33 => ?_)
    · have hi40 : i = 40 := by omega
      rw [hi40, Nat.mod_eq_of_lt hX40] at hP hD
      exact W.vret hx hb hr (fun tZ ht hW => ⟨⟨(), rfl, trivial, by show va_P D vwCl _ tZ.heap; rw [ht]; exact hP⟩, hS.F ht⟩) hS.2.2 dX6_multiply_130
    · refine lv_lconst (v := lN 0) hx hb dX6_multiply_36 (by decide) ?_
      refine lv_lstore hx hb dX6_multiply_37 hl (by decide) rfl (fun ls hl => ?_)
      have hl : lv_has ls 10 [(5, .long (lN 0)), (4, .int (nI i)), (0, .ref m), (1, .int (nI qa)), (2, .int (nI qb)), (3, .int (nI qc))] := hl
      refine lv_iconst (v := nI 0) hx hb dX6_multiply_39 (by decide) ?_
      refine lv_istore hx hb dX6_multiply_40 hl (by decide) rfl (fun ls hl => ?_)
      have hl : lv_has ls 10 [(7, .int (nI 0)), (5, .long (lN 0)), (4, .int (nI i)), (0, .ref m), (1, .int (nI qa)), (2, .int (nI qb)), (3, .int (nI qc))] := hl
      refine sw_loop (I := fun kM ls H locs => ∃ (t : Nat) (cy : Nat) (f : Nat → Int32), kM = 40 - (i + t) ∧ lv_has ls 10 [(7, .int (nI t)), (5, .long (lN cy)), (4, .int (nI i)), (0, .ref m), (1, .int (nI qa)), (2, .int (nI qb)), (3, .int (nI qc))] ∧ va_P D vwCl [(m, .inr (6, [.int (nI ord), .ref me, .int (nI ns), .ref ml, .ref mw, .int ev, .ref wa, .ref wb, .ref wf, .long y0, .long y1, .ref li])), (me, .inl (cI, 4, .inl ge)), (ml, .inl (cI, 9, .inl gL)), (mw, .inl (cI, 72, .inl gW)), (wa, .inl (cI, 72, .inl ga)), (wb, .inl (cI, 72, .inl gb)), (wf, .inl (cI, 72, .inl gf)), (li, .inl (cI, 240, .inl f))] H ∧ va_D A [(m, .inr (6, [.int (nI ord), .ref me, .int (nI ns), .ref ml, .ref mw, .int ev, .ref wa, .ref wb, .ref wf, .long y0, .long y1, .ref li])), (me, .inl (cI, 4, .inl ge)), (ml, .inl (cI, 9, .inl gL)), (mw, .inl (cI, 72, .inl gW)), (wa, .inl (cI, 72, .inl ga)), (wb, .inl (cI, 72, .inl gb)), (wf, .inl (cI, 72, .inl gf)), (li, .inl (cI, 240, .inl f))] ∧ va_S A sZ.heap H locs ∧ (i + t ≤ 40) ∧ (cy = dgZ 65536 (X % 65536 ^ i * Y) (dg 65536 i X) Y i t / 65536 ^ (i + t)) ∧ (∀ j, j < i + t → f (qc + j) = nI (dg 65536 j ((X % 65536 ^ i * Y) + dg 65536 i X * (65536 ^ i * Y)))) ∧ (∀ j, i + t ≤ j → j < 40 → f (qc + j) = nI (dg 65536 j (X % 65536 ^ i * Y))) ∧ (∀ j, j < qc ∨ qc + 40 ≤ j → f j = lim j)) ?_ _ ⟨0, 0, lmS lim qc (X % 65536 ^ i * Y), rfl, hl, hP, hD, hS, by omega, (dgZ_0 _ _ _ _ _ (by decide)).symm, fun j hj => by rw [lmS_in (by omega), dgZ_low (by decide) _ _ _ _ _ (by omega)], fun j _ hj => lmS_in hj, fun j hj => lmS_out hj⟩
      intro kM ls H locs hI ih42
      obtain ⟨t, cy, f, hkM, hl, hP, hD, hS, hit, hc, hlo, hhi, hout⟩ := hI
      refine lv_iload hx hb dX6_multiply_42 (lv_at hl 2 rfl) ?_
      refine lv_iload hx hb dX6_multiply_44 (lv_at hl 0 rfl) ?_
      refine n_iadd hx hb dX6_multiply_46 ?_
      refine lv_bipush (v := nI 40) hx hb dX6_multiply_47 (by decide) ?_
      refine ci_icmp_ge (X := ((i + t : Nat) : Int)) (Y := ((40 : Nat) : Int)) (tgt := 124) hx hb (sg_n (by omega)) (sg_n (by omega)) dX6_multiply_49 rfl (fun h49 => ?_) (fun h49 => ?_)
      · have hP := sg_arr (g := lmS lim qc (X % 65536 ^ (i + 1) * Y)) 7 hP rfl (fun j _ => by rw [dg_prod]; exact lmS_of (fun j hj => hlo j (by omega)) hout j)
        have hD := sgD_adr (ws := [(m, .inr (6, [.int (nI ord), .ref me, .int (nI ns), .ref ml, .ref mw, .int ev, .ref wa, .ref wb, .ref wf, .long y0, .long y1, .ref li])), (me, .inl (cI, 4, .inl ge)), (ml, .inl (cI, 9, .inl gL)), (mw, .inl (cI, 72, .inl gW)), (wa, .inl (cI, 72, .inl ga)), (wb, .inl (cI, 72, .inl gb)), (wf, .inl (cI, 72, .inl gf)), (li, .inl (cI, 240, .inl f))]) (ws' := [(m, .inr (6, [.int (nI ord), .ref me, .int (nI ns), .ref ml, .ref mw, .int ev, .ref wa, .ref wb, .ref wf, .long y0, .long y1, .ref li])), (me, .inl (cI, 4, .inl ge)), (ml, .inl (cI, 9, .inl gL)), (mw, .inl (cI, 72, .inl gW)), (wa, .inl (cI, 72, .inl ga)), (wb, .inl (cI, 72, .inl gb)), (wf, .inl (cI, 72, .inl gf)), (li, .inl (cI, 240, .inl (lmS lim qc (X % 65536 ^ (i + 1) * Y))))]) rfl hD
        have hP : va_P D vwCl [(m, .inr (6, [.int (nI ord), .ref me, .int (nI ns), .ref ml, .ref mw, .int ev, .ref wa, .ref wb, .ref wf, .long y0, .long y1, .ref li])), (me, .inl (cI, 4, .inl ge)), (ml, .inl (cI, 9, .inl gL)), (mw, .inl (cI, 72, .inl gW)), (wa, .inl (cI, 72, .inl ga)), (wb, .inl (cI, 72, .inl gb)), (wf, .inl (cI, 72, .inl gf)), (li, .inl (cI, 240, .inl (lmS lim qc (X % 65536 ^ (i + 1) * Y))))] H := hP
        have hD : va_D A [(m, .inr (6, [.int (nI ord), .ref me, .int (nI ns), .ref ml, .ref mw, .int ev, .ref wa, .ref wb, .ref wf, .long y0, .long y1, .ref li])), (me, .inl (cI, 4, .inl ge)), (ml, .inl (cI, 9, .inl gL)), (mw, .inl (cI, 72, .inl gW)), (wa, .inl (cI, 72, .inl ga)), (wb, .inl (cI, 72, .inl gb)), (wf, .inl (cI, 72, .inl gf)), (li, .inl (cI, 240, .inl (lmS lim qc (X % 65536 ^ (i + 1) * Y))))] := hD
        refine lv_iinc (v := nI (i + 1)) hx hb dX6_multiply_124 hl (k := 2) rfl (sg_inc _) (by decide) rfl (fun ls hl => ?_)
        have hl : lv_has ls 10 [(4, .int (nI (i + 1))), (7, .int (nI t)), (5, .long (lN cy)), (0, .ref m), (1, .int (nI qa)), (2, .int (nI qb)), (3, .int (nI qc))] := hl
        refine lv_goto (tgt := 29) hx hb dX6_multiply_127 rfl ?_
        exact ih29 _ _ _ _ ⟨i + 1, rfl, lv_sub hl [0, 3, 4, 5, 6] rfl, hP, hD, hS, by omega⟩ (by omega)
      · have hdl := dg_lt (B := 65536) (by decide) i X
        have hdm := dg_lt (B := 65536) (by decide) t Y
        have hdn := dg_lt (B := 65536) (by decide) (i + t) (X % 65536 ^ i * Y)
        have hcy : cy ≤ dg 65536 i X := by rw [hc]; exact dgZ_le (by decide) _ _ _ _ _
        have hmk : dg 65536 t Y * dg 65536 i X ≤ 65535 * 65535 := Nat.mul_le_mul (by omega) (by omega)
        refine lv_aload_n hx hb dX6_multiply_52 rfl (lv_at hl 3 rfl) ?_
        refine va_get (D := D) (ci := 6) (v := .ref li) (C := RX6) (T := TX6) (N := 12) hx hb hts hinX6 hown hK.1 hP 0 rfl rfl 11 (by decide) (hts _ fl_X6_32) (fun _ h9 => h9) rfl dX6_multiply_53 ?_
        refine lv_iload_n hx hb dX6_multiply_56 rfl (lv_at hl 6 rfl) ?_
        refine lv_iload hx hb dX6_multiply_57 (lv_at hl 2 rfl) ?_
        refine n_iadd hx hb dX6_multiply_59 ?_
        refine lv_iload hx hb dX6_multiply_60 (lv_at hl 0 rfl) ?_
        refine n_iadd hx hb dX6_multiply_62 ?_
        refine sw_i (y := nI (qc + (i + t))) (congrArg nI (Nat.add_assoc _ _ _)) ?_
        refine n_iald (v := nI (dg 65536 (i + t) (X % 65536 ^ i * Y))) hx hb hK.1 hP 7 0 rfl rfl (by omega) (by omega) (hhi (i + t) (Nat.le_refl _) (by omega)) dX6_multiply_63 ?_
        refine n_i2l hx hb (by omega) dX6_multiply_64 ?_
        refine lv_aload_n hx hb dX6_multiply_65 rfl (lv_at hl 3 rfl) ?_
        refine va_get (D := D) (ci := 6) (v := .ref li) (C := RX6) (T := TX6) (N := 12) hx hb hts hinX6 hown hK.1 hP 0 rfl rfl 11 (by decide) (hts _ fl_X6_32) (fun _ h9 => h9) rfl dX6_multiply_66 ?_
        refine lv_iload_n hx hb dX6_multiply_69 rfl (lv_at hl 4 rfl) ?_
        refine lv_iload hx hb dX6_multiply_70 (lv_at hl 2 rfl) ?_
        refine n_iadd hx hb dX6_multiply_72 ?_
        refine n_iald (v := nI (dg 65536 i X)) hx hb hK.1 hP 7 0 rfl rfl (by omega) (by omega) ((hout _ (by omega)).trans (hlX i (by omega))) dX6_multiply_73 ?_
        refine n_i2l hx hb (by omega) dX6_multiply_74 ?_
        refine lv_aload_n hx hb dX6_multiply_75 rfl (lv_at hl 3 rfl) ?_
        refine va_get (D := D) (ci := 6) (v := .ref li) (C := RX6) (T := TX6) (N := 12) hx hb hts hinX6 hown hK.1 hP 0 rfl rfl 11 (by decide) (hts _ fl_X6_32) (fun _ h9 => h9) rfl dX6_multiply_76 ?_
        refine lv_iload_n hx hb dX6_multiply_79 rfl (lv_at hl 5 rfl) ?_
        refine lv_iload hx hb dX6_multiply_80 (lv_at hl 0 rfl) ?_
        refine n_iadd hx hb dX6_multiply_82 ?_
        refine n_iald (v := nI (dg 65536 t Y)) hx hb hK.1 hP 7 0 rfl rfl (by omega) (by omega) ((hout _ (by omega)).trans (hlY t (by omega))) dX6_multiply_83 ?_
        refine n_i2l hx hb (by omega) dX6_multiply_84 ?_
        refine n_lmul hx hb dX6_multiply_85 ?_
        refine n_ladd hx hb dX6_multiply_86 ?_
        refine lv_lload hx hb dX6_multiply_87 (lv_at hl 1 rfl) ?_
        refine n_ladd hx hb dX6_multiply_89 ?_
        refine sw_l (y := lN (dg 65536 t Y * dg 65536 i X + dg 65536 (i + t) (X % 65536 ^ i * Y) + cy)) (congrArg lN (by rw [Nat.mul_comm (dg 65536 i X)]; omega)) ?_
        refine lv_lstore hx hb dX6_multiply_90 hl (by decide) rfl (fun ls hl => ?_)
        have hl : lv_has ls 10 [(8, .long (lN (dg 65536 t Y * dg 65536 i X + dg 65536 (i + t) (X % 65536 ^ i * Y) + cy))), (7, .int (nI t)), (5, .long (lN cy)), (4, .int (nI i)), (0, .ref m), (1, .int (nI qa)), (2, .int (nI qb)), (3, .int (nI qc))] := hl
        refine lv_aload_n hx hb dX6_multiply_92 rfl (lv_at hl 4 rfl) ?_
        refine va_get (D := D) (ci := 6) (v := .ref li) (C := RX6) (T := TX6) (N := 12) hx hb hts hinX6 hown hK.1 hP 0 rfl rfl 11 (by decide) (hts _ fl_X6_32) (fun _ h9 => h9) rfl dX6_multiply_93 ?_
        refine lv_iload_n hx hb dX6_multiply_96 rfl (lv_at hl 7 rfl) ?_
        refine lv_iload hx hb dX6_multiply_97 (lv_at hl 3 rfl) ?_
        refine n_iadd hx hb dX6_multiply_99 ?_
        refine lv_iload hx hb dX6_multiply_100 (lv_at hl 1 rfl) ?_
        refine n_iadd hx hb dX6_multiply_102 ?_
        refine sw_i (y := nI (qc + (i + t))) (congrArg nI (Nat.add_assoc _ _ _)) ?_
        refine lv_lload hx hb dX6_multiply_103 (lv_at hl 0 rfl) ?_
        refine lv_ldc2 (v := lN 65535) hx hb hown (hts _ kl_X6_96) dX6_multiply_105 ?_
        refine lv_land hx hb dX6_multiply_108 ?_
        refine sw_l (y := lN ((dg 65536 t Y * dg 65536 i X + dg 65536 (i + t) (X % 65536 ^ i * Y) + cy) % 65536)) (sg_low16 (by omega)) ?_
        refine n_l2i hx hb dX6_multiply_109 ?_
        refine n_iast hx hb hK.1 hP hD hS 7 0 rfl rfl (by omega) (by omega) dX6_multiply_110 (fun H locs hP hD hS => ?_)
        have hP : va_P D vwCl [(m, .inr (6, [.int (nI ord), .ref me, .int (nI ns), .ref ml, .ref mw, .int ev, .ref wa, .ref wb, .ref wf, .long y0, .long y1, .ref li])), (me, .inl (cI, 4, .inl ge)), (ml, .inl (cI, 9, .inl gL)), (mw, .inl (cI, 72, .inl gW)), (wa, .inl (cI, 72, .inl ga)), (wb, .inl (cI, 72, .inl gb)), (wf, .inl (cI, 72, .inl gf)), (li, .inl (cI, 240, .inl (upd f (qc + (i + t)) (nI ((dg 65536 t Y * dg 65536 i X + dg 65536 (i + t) (X % 65536 ^ i * Y) + cy) % 65536)))))] H := hP
        have hD : va_D A [(m, .inr (6, [.int (nI ord), .ref me, .int (nI ns), .ref ml, .ref mw, .int ev, .ref wa, .ref wb, .ref wf, .long y0, .long y1, .ref li])), (me, .inl (cI, 4, .inl ge)), (ml, .inl (cI, 9, .inl gL)), (mw, .inl (cI, 72, .inl gW)), (wa, .inl (cI, 72, .inl ga)), (wb, .inl (cI, 72, .inl gb)), (wf, .inl (cI, 72, .inl gf)), (li, .inl (cI, 240, .inl (upd f (qc + (i + t)) (nI ((dg 65536 t Y * dg 65536 i X + dg 65536 (i + t) (X % 65536 ^ i * Y) + cy) % 65536)))))] := hD
        refine lv_lload hx hb dX6_multiply_111 (lv_at hl 0 rfl) ?_
        refine lv_bipush (v := nI 16) hx hb dX6_multiply_113 (by decide) ?_
        refine lv_lshr hx hb dX6_multiply_115 rfl ?_
        refine sw_l (y := lN ((dg 65536 t Y * dg 65536 i X + dg 65536 (i + t) (X % 65536 ^ i * Y) + cy) / 65536)) (sg_hi16 (by omega)) ?_
        refine lv_lstore hx hb dX6_multiply_116 hl (by decide) rfl (fun ls hl => ?_)
        have hl : lv_has ls 10 [(5, .long (lN ((dg 65536 t Y * dg 65536 i X + dg 65536 (i + t) (X % 65536 ^ i * Y) + cy) / 65536))), (8, .long (lN (dg 65536 t Y * dg 65536 i X + dg 65536 (i + t) (X % 65536 ^ i * Y) + cy))), (7, .int (nI t)), (4, .int (nI i)), (0, .ref m), (1, .int (nI qa)), (2, .int (nI qb)), (3, .int (nI qc))] := hl
        refine lv_iinc (v := nI (t + 1)) hx hb dX6_multiply_118 hl (k := 2) rfl (sg_inc _) (by decide) rfl (fun ls hl => ?_)
        have hl : lv_has ls 10 [(7, .int (nI (t + 1))), (5, .long (lN ((dg 65536 t Y * dg 65536 i X + dg 65536 (i + t) (X % 65536 ^ i * Y) + cy) / 65536))), (8, .long (lN (dg 65536 t Y * dg 65536 i X + dg 65536 (i + t) (X % 65536 ^ i * Y) + cy))), (4, .int (nI i)), (0, .ref m), (1, .int (nI qa)), (2, .int (nI qb)), (3, .int (nI qc))] := hl
        refine lv_goto (tgt := 42) hx hb dX6_multiply_121 rfl ?_
        exact ih42 _ _ _ _ ⟨t + 1, (dg 65536 t Y * dg 65536 i X + dg 65536 (i + t) (X % 65536 ^ i * Y) + cy) / 65536, upd f (qc + (i + t)) (nI ((dg 65536 t Y * dg 65536 i X + dg 65536 (i + t) (X % 65536 ^ i * Y) + cy) % 65536)), rfl, lv_sub hl [0, 1, 3, 4, 5, 6, 7] rfl, hP, hD, hS, by omega, by rw [hc, dgZ_sum (by decide), dgZ_carry], sg_uq_lt (i := i + t) (g := fun j => nI (dg 65536 j ((X % 65536 ^ i * Y) + dg 65536 i X * (65536 ^ i * Y)))) hlo (by rw [hc, dgZ_sum (by decide), dgZ_dg (by decide)]), sg_uq_ge (i := i + t) (g := fun j => nI (dg 65536 j (X % 65536 ^ i * Y))) hhi, sg_uq_out (by omega) hout⟩ (by omega)
  · refine lv_aload_n hx hb dX6_multiply_10 rfl (lv_at hl 1 rfl) ?_
    refine va_get (D := D) (ci := 6) (v := .ref li) (C := RX6) (T := TX6) (N := 12) hx hb hts hinX6 hown hK.1 hP 0 rfl rfl 11 (by decide) (hts _ fl_X6_32) (fun _ h9 => h9) rfl dX6_multiply_11 ?_
    refine lv_iload_n hx hb dX6_multiply_14 rfl (lv_at hl 4 rfl) ?_
    refine lv_iload hx hb dX6_multiply_15 (lv_at hl 0 rfl) ?_
    refine n_iadd hx hb dX6_multiply_17 ?_
    refine lv_iconst (v := nI 0) hx hb dX6_multiply_18 (by decide) ?_
    refine n_iast hx hb hK.1 hP hD hS 7 0 rfl rfl (by omega) (by omega) dX6_multiply_19 (fun H locs hP hD hS => ?_)
    have hP : va_P D vwCl [(m, .inr (6, [.int (nI ord), .ref me, .int (nI ns), .ref ml, .ref mw, .int ev, .ref wa, .ref wb, .ref wf, .long y0, .long y1, .ref li])), (me, .inl (cI, 4, .inl ge)), (ml, .inl (cI, 9, .inl gL)), (mw, .inl (cI, 72, .inl gW)), (wa, .inl (cI, 72, .inl ga)), (wb, .inl (cI, 72, .inl gb)), (wf, .inl (cI, 72, .inl gf)), (li, .inl (cI, 240, .inl (upd f (qc + i) (nI 0))))] H := hP
    have hD : va_D A [(m, .inr (6, [.int (nI ord), .ref me, .int (nI ns), .ref ml, .ref mw, .int ev, .ref wa, .ref wb, .ref wf, .long y0, .long y1, .ref li])), (me, .inl (cI, 4, .inl ge)), (ml, .inl (cI, 9, .inl gL)), (mw, .inl (cI, 72, .inl gW)), (wa, .inl (cI, 72, .inl ga)), (wb, .inl (cI, 72, .inl gb)), (wf, .inl (cI, 72, .inl gf)), (li, .inl (cI, 240, .inl (upd f (qc + i) (nI 0))))] := hD
    refine lv_iinc (v := nI (i + 1)) hx hb dX6_multiply_20 hl (k := 0) rfl (sg_inc _) (by decide) rfl (fun ls hl => ?_)
    have hl : lv_has ls 10 [(4, .int (nI (i + 1))), (0, .ref m), (1, .int (nI qa)), (2, .int (nI qb)), (3, .int (nI qc))] := hl
    refine lv_goto (tgt := 3) hx hb dX6_multiply_23 rfl ?_
    exact ih3 _ _ _ _ ⟨i + 1, upd f (qc + i) (nI 0), rfl, lv_sub hl [0, 1, 2, 3, 4] rfl, hP, hD, hS, by omega, sg_zf hf⟩ (by omega)
set_option maxHeartbeats 4000000 in
set_option maxRecDepth 100000 in
theorem c_X6_findScore (l : Launch) (D : va_G) (cI cO : ClassId) (m : Nat) (me : Nat) (ml : Nat) (mw : Nat) (wa : Nat) (wb : Nat) (wf : Nat) (li : Nat) (ord : Nat) (ns : Nat) (ev : Int32) (y0 : Int64) (y1 : Int64) (ge : Nat → Int32) (gL : Nat → Int32) (gW : Nat → Int32) (ga : Nat → Int32) (gb : Nat → Int32) (gf : Nat → Int32) (lim : Nat → Int32) (ln : Nat → Nat) (wd : Nat → Nat → Nat) (e : Nat → Nat) (hns : ns ≤ 8) (hMm : sgMm ln wd ns gL gW) (ho : 1 ≤ ord ∧ ord ≤ 3) (hE : sgE e) (hge : ∀ k, 1 ≤ k → k ≤ 3 → ge k = nI (e k)) : Met l yX6_findScore (.code yX6_findScore cX6_findScore 2 none :: sgT) ({ frames := 4, cells := 0, slots := 0, locals := 108 }) (sgWc D cI cO [.ref m] [(m, .inr (6, [.int (nI ord), .ref me, .int (nI ns), .ref ml, .ref mw, .int ev, .ref wa, .ref wb, .ref wf, .long y0, .long y1, .ref li])), (me, .inl (cI, 4, .inl ge)), (ml, .inl (cI, 9, .inl gL)), (mw, .inl (cI, 72, .inl gW)), (wa, .inl (cI, 72, .inl ga)), (wb, .inl (cI, 72, .inl gb)), (wf, .inl (cI, 72, .inl gf)), (li, .inl (cI, 240, .inl lim))]) (va_Qv (fun uZ : (Nat × (Nat → Int32) × (Nat → Int32) × (Nat → Int32)) × Int64 × Int64 => True) (fun uZ t => va_P D vwCl [(m, .inr (6, [.int (nI ord), .ref me, .int (nI ns), .ref ml, .ref mw, .int (nI uZ.1.1), .ref wa, .ref wb, .ref wf, .long uZ.2.1, .long uZ.2.2, .ref li])), (me, .inl (cI, 4, .inl ge)), (ml, .inl (cI, 9, .inl gL)), (mw, .inl (cI, 72, .inl gW)), (wa, .inl (cI, 72, .inl uZ.1.2.1)), (wb, .inl (cI, 72, .inl uZ.1.2.2.1)), (wf, .inl (cI, 72, .inl uZ.1.2.2.2)), (li, .inl (cI, 240, .inl (lmS (lmS lim 0 (sgPr (fun a b w => sgO (rwS ln wd ns) ord e a b w) (fun j => sgSy ln wd ns j) (ln ns + 1))) 40 (sgPr (fun a b w => sgU (rwS ln wd ns) ord e a b w) (fun j => sgSy ln wd ns j) (ln ns + 1)))))] t.heap) (xA [(m, .inr (6, [.int (nI ord), .ref me, .int (nI ns), .ref ml, .ref mw, .int ev, .ref wa, .ref wb, .ref wf, .long y0, .long y1, .ref li])), (me, .inl (cI, 4, .inl ge)), (ml, .inl (cI, 9, .inl gL)), (mw, .inl (cI, 72, .inl gW)), (wa, .inl (cI, 72, .inl ga)), (wb, .inl (cI, 72, .inl gb)), (wf, .inl (cI, 72, .inl gf)), (li, .inl (cI, 240, .inl lim))])) 0 0 (xA [(m, .inr (6, [.int (nI ord), .ref me, .int (nI ns), .ref ml, .ref mw, .int ev, .ref wa, .ref wb, .ref wf, .long y0, .long y1, .ref li])), (me, .inl (cI, 4, .inl ge)), (ml, .inl (cI, 9, .inl gL)), (mw, .inl (cI, 72, .inl gW)), (wa, .inl (cI, 72, .inl ga)), (wb, .inl (cI, 72, .inl gb)), (wf, .inl (cI, 72, .inl gf)), (li, .inl (cI, 240, .inl lim))]) := by
  refine Met.ofW (cc := cX6_findScore) (maxL := 2) (ret := none) (by decide) rfl ?_
  intro pZ eZ sZ mZ argsZ belowZ methZ cZ s₁ BZ hml hv
  obtain ⟨rfl, hP, hK, hD0⟩ := hv
  have hx := BZ.exec
  have hb := BZ.bytes
  have hr := BZ.returns
  have hts : ∀ wZ ∈ sgT, wZ.before ([.ref m] : List Value).toArray sZ = true := fun wZ h => atoms_spec (ws := (.code yX6_findScore cX6_findScore 2 none :: sgT)) BZ.pre wZ (List.mem_cons_of_mem _ h)
  have hown : sZ.vm.findClass RX6 = some mZ.cls := findClass_of_methodNamed BZ.named
  have hlocks := BZ.notSynchronized
  have hD : va_D (xA [(m, .inr (6, [.int (nI ord), .ref me, .int (nI ns), .ref ml, .ref mw, .int ev, .ref wa, .ref wb, .ref wf, .long y0, .long y1, .ref li])), (me, .inl (cI, 4, .inl ge)), (ml, .inl (cI, 9, .inl gL)), (mw, .inl (cI, 72, .inl gW)), (wa, .inl (cI, 72, .inl ga)), (wb, .inl (cI, 72, .inl gb)), (wf, .inl (cI, 72, .inl gf)), (li, .inl (cI, 240, .inl lim))]) [(m, .inr (6, [.int (nI ord), .ref me, .int (nI ns), .ref ml, .ref mw, .int ev, .ref wa, .ref wb, .ref wf, .long y0, .long y1, .ref li])), (me, .inl (cI, 4, .inl ge)), (ml, .inl (cI, 9, .inl gL)), (mw, .inl (cI, 72, .inl gW)), (wa, .inl (cI, 72, .inl ga)), (wb, .inl (cI, 72, .inl gb)), (wf, .inl (cI, 72, .inl gf)), (li, .inl (cI, 240, .inl lim))] := ⟨hD0.1, fun k q h => ⟨k, q.2, h⟩⟩
  generalize hAe : xA [(m, .inr (6, [.int (nI ord), .ref me, .int (nI ns), .ref ml, .ref mw, .int ev, .ref wa, .ref wb, .ref wf, .long y0, .long y1, .ref li])), (me, .inl (cI, 4, .inl ge)), (ml, .inl (cI, 9, .inl gL)), (mw, .inl (cI, 72, .inl gW)), (wa, .inl (cI, 72, .inl ga)), (wb, .inl (cI, 72, .inl gb)), (wf, .inl (cI, 72, .inl gf)), (li, .inl (cI, 240, .inl lim))] = A at hD ⊢
  have hS : va_S A sZ.heap sZ.heap [] := va_S.rf
  have hl := lv_entry ([.ref m]) (n := 2) (Nat.le_of_ble_eq_true rfl)
  rw [lg_entry_eq]
  generalize (lg_sl ([.ref m]) ++ List.replicate (2 - (lg_sl ([.ref m])).length) Slot.unset).toArray = ls at hl ⊢
  have hl : lv_has ls 2 [(0, .ref m)] := hl
  have hB := rwS_bd hns hMm
  obtain ⟨hLs, hl8, hWs, hds⟩ := hMm ns (Nat.le_refl _)
  have hP : va_P D vwCl [(m, .inr (6, [.int (nI ord), .ref me, .int (nI ns), .ref ml, .ref mw, .int ev, .ref wa, .ref wb, .ref wf, .long y0, .long y1, .ref li])), (me, .inl (cI, 4, .inl ge)), (ml, .inl (cI, 9, .inl gL)), (mw, .inl (cI, 72, .inl gW)), (wa, .inl (cI, 72, .inl ga)), (wb, .inl (cI, 72, .inl gb)), (wf, .inl (cI, 72, .inl gf)), (li, .inl (cI, 240, .inl lim))] sZ.heap := hP
  refine lv_aload_n hx hb dX6_findScore_0 rfl (lv_at hl 0 rfl) ?_
  refine sg_callWv (fun u1 => [(m, .inr (6, [.int (nI ord), .ref me, .int (nI ns), .ref ml, .ref mw, .int (nI u1.1), .ref wa, .ref wb, .ref wf, .long y0, .long y1, .ref li])), (me, .inl (cI, 4, .inl ge)), (ml, .inl (cI, 9, .inl gL)), (mw, .inl (cI, 72, .inl gW)), (wa, .inl (cI, 72, .inl u1.2.1)), (wb, .inl (cI, 72, .inl u1.2.2.1)), (wf, .inl (cI, 72, .inl u1.2.2.2)), (li, .inl (cI, 240, .inl lim))]) [(true, 0), (true, 1), (true, 2), (true, 3), (true, 4), (true, 5), (true, 6), (true, 7)] (va_runV (As := []) (rest := []) (C := RX6) ⟨hx, hb, hml, hown, hts⟩ (c_X6_look l D cI cO m me ml mw wa wb wf li ord ns ev y0 y1 ge gL gW ga gb gf lim ln wd (by omega) hMm) ⟨(sg_cB 0 hts mcX6_look ml_X6_56 in_X6 rfl rfl (by decide +kernel) ⟨Nat.le_of_ble_eq_true rfl, Nat.le_of_ble_eq_true rfl⟩), hts _ im_X6_look, hts _ se_X6_look⟩ (sg_wV (q0 := 0) hK hP hD [0, 1, 2, 3, 4, 5, 6, 7] (by decide) rfl rfl rfl rfl) rfl rfl hl.1 rfl (lv_room (Nat.le_of_ble_eq_true rfl)) dX6_findScore_1 ⟨Nat.zero_le _, Nat.zero_le _⟩) hP hD hS [0, 1, 2, 3, 4, 5, 6, 7] rfl (fun _ => rfl) (by decide) (fun _ => rfl) (fun u1 H locs hw1 hP hD hS => ?_)
  have hw1 : sgEv (rwS ln wd ns) u1.2.1 u1.2.2.1 u1.2.2.2 u1.1 := hw1
  refine lv_aload_n hx hb dX6_findScore_4 rfl (lv_at hl 0 rfl) ?_
  refine lv_iconst (v := nI 0) hx hb dX6_findScore_5 (by decide) ?_
  refine sg_callWv (fun _ => [(m, .inr (6, [.int (nI ord), .ref me, .int (nI ns), .ref ml, .ref mw, .int (nI u1.1), .ref wa, .ref wb, .ref wf, .long y0, .long y1, .ref li])), (me, .inl (cI, 4, .inl ge)), (ml, .inl (cI, 9, .inl gL)), (mw, .inl (cI, 72, .inl gW)), (wa, .inl (cI, 72, .inl u1.2.1)), (wb, .inl (cI, 72, .inl u1.2.2.1)), (wf, .inl (cI, 72, .inl u1.2.2.2)), (li, .inl (cI, 240, .inl (lmS lim 0 1)))]) [(true, 0), (true, 1), (true, 2), (true, 3), (true, 4), (true, 5), (true, 6), (true, 7)] (va_runV (As := [.int (nI 0)]) (rest := []) (C := RX6) ⟨hx, hb, hml, hown, hts⟩ (c_X6_setOne l D cI cO m me ml mw wa wb wf li ord ns (nI u1.1) y0 y1 ge gL gW u1.2.1 u1.2.2.1 u1.2.2.2 lim 0 (by omega)) ⟨(sg_cB 1 hts mcX6_setOne ml_X6_98 in_X6 rfl rfl (by decide +kernel) ⟨Nat.le_of_ble_eq_true rfl, Nat.le_of_ble_eq_true rfl⟩), hts _ im_X6_setOne, hts _ se_X6_setOne⟩ (sg_wV (q0 := 0) hK hP hD [0, 1, 2, 3, 4, 5, 6, 7] (by decide) rfl rfl rfl rfl) rfl rfl hl.1 rfl (lv_room (Nat.le_of_ble_eq_true rfl)) dX6_findScore_6 ⟨Nat.zero_le _, Nat.zero_le _⟩) hP hD hS [0, 1, 2, 3, 4, 5, 6, 7] rfl (fun _ => rfl) (by decide) (fun _ => rfl) (fun u6 H locs hw6 hP hD hS => ?_)
  refine lv_aload_n hx hb dX6_findScore_9 rfl (lv_at hl 0 rfl) ?_
  refine lv_bipush (v := nI 40) hx hb dX6_findScore_10 (by decide) ?_
  refine sg_callWv (fun _ => [(m, .inr (6, [.int (nI ord), .ref me, .int (nI ns), .ref ml, .ref mw, .int (nI u1.1), .ref wa, .ref wb, .ref wf, .long y0, .long y1, .ref li])), (me, .inl (cI, 4, .inl ge)), (ml, .inl (cI, 9, .inl gL)), (mw, .inl (cI, 72, .inl gW)), (wa, .inl (cI, 72, .inl u1.2.1)), (wb, .inl (cI, 72, .inl u1.2.2.1)), (wf, .inl (cI, 72, .inl u1.2.2.2)), (li, .inl (cI, 240, .inl (lmS (lmS lim 0 1) 40 1)))]) [(true, 0), (true, 1), (true, 2), (true, 3), (true, 4), (true, 5), (true, 6), (true, 7)] (va_runV (As := [.int (nI 40)]) (rest := []) (C := RX6) ⟨hx, hb, hml, hown, hts⟩ (c_X6_setOne l D cI cO m me ml mw wa wb wf li ord ns (nI u1.1) y0 y1 ge gL gW u1.2.1 u1.2.2.1 u1.2.2.2 (lmS lim 0 1) 40 (by omega)) ⟨(sg_cB 1 hts mcX6_setOne ml_X6_98 in_X6 rfl rfl (by decide +kernel) ⟨Nat.le_of_ble_eq_true rfl, Nat.le_of_ble_eq_true rfl⟩), hts _ im_X6_setOne, hts _ se_X6_setOne⟩ (sg_wV (q0 := 0) hK hP hD [0, 1, 2, 3, 4, 5, 6, 7] (by decide) rfl rfl rfl rfl) rfl rfl hl.1 rfl (lv_room (Nat.le_of_ble_eq_true rfl)) dX6_findScore_12 ⟨Nat.zero_le _, Nat.zero_le _⟩) hP hD hS [0, 1, 2, 3, 4, 5, 6, 7] rfl (fun _ => rfl) (by decide) (fun _ => rfl) (fun u12 H locs hw12 hP hD hS => ?_)
  refine lv_iconst (v := nI 0) hx hb dX6_findScore_15 (by decide) ?_
  refine lv_istore_n hx hb dX6_findScore_16 rfl hl (by decide) rfl (fun ls hl => ?_)
  have hl : lv_has ls 2 [(1, .int (nI 0)), (0, .ref m)] := hl
  refine sw_loop (I := fun kM ls H locs => ∃ (i : Nat) (z0 : Int64) (z1 : Int64), kM = ln ns + 1 - i ∧ lv_has ls 2 [(1, .int (nI i)), (0, .ref m)] ∧ va_P D vwCl [(m, .inr (6, [.int (nI ord), .ref me, .int (nI ns), .ref ml, .ref mw, .int (nI u1.1), .ref wa, .ref wb, .ref wf, .long z0, .long z1, .ref li])), (me, .inl (cI, 4, .inl ge)), (ml, .inl (cI, 9, .inl gL)), (mw, .inl (cI, 72, .inl gW)), (wa, .inl (cI, 72, .inl u1.2.1)), (wb, .inl (cI, 72, .inl u1.2.2.1)), (wf, .inl (cI, 72, .inl u1.2.2.2)), (li, .inl (cI, 240, .inl (lmS (lmS lim 0 (sgPr (fun a b w => sgO (rwS ln wd ns) ord e a b w) (fun j => sgSy ln wd ns j) i)) 40 (sgPr (fun a b w => sgU (rwS ln wd ns) ord e a b w) (fun j => sgSy ln wd ns j) i))))] H ∧ va_D A [(m, .inr (6, [.int (nI ord), .ref me, .int (nI ns), .ref ml, .ref mw, .int (nI u1.1), .ref wa, .ref wb, .ref wf, .long z0, .long z1, .ref li])), (me, .inl (cI, 4, .inl ge)), (ml, .inl (cI, 9, .inl gL)), (mw, .inl (cI, 72, .inl gW)), (wa, .inl (cI, 72, .inl u1.2.1)), (wb, .inl (cI, 72, .inl u1.2.2.1)), (wf, .inl (cI, 72, .inl u1.2.2.2)), (li, .inl (cI, 240, .inl (lmS (lmS lim 0 (sgPr (fun a b w => sgO (rwS ln wd ns) ord e a b w) (fun j => sgSy ln wd ns j) i)) 40 (sgPr (fun a b w => sgU (rwS ln wd ns) ord e a b w) (fun j => sgSy ln wd ns j) i))))] ∧ va_S A sZ.heap H locs ∧ (i ≤ ln ns + 1)) ?_ _ ⟨0, y0, y1, rfl, hl, hP, hD, hS, by omega⟩
  intro kM ls H locs hI ih17
  obtain ⟨i, z0, z1, hkM, hl, hP, hD, hS, hi⟩ := hI
  refine lv_iload_n hx hb dX6_findScore_17 rfl (lv_at hl 0 rfl) ?_
  refine lv_aload_n hx hb dX6_findScore_18 rfl (lv_at hl 1 rfl) ?_
  refine va_get (D := D) (ci := 6) (v := .ref ml) (C := RX6) (T := TX6) (N := 12) hx hb hts hinX6 hown hK.1 hP 0 rfl rfl 3 (by decide) (hts _ fl_X6_17) (fun _ h9 => h9) rfl dX6_findScore_19 ?_
  refine lv_aload_n hx hb dX6_findScore_22 rfl (lv_at hl 1 rfl) ?_
  refine va_get (D := D) (ci := 6) (v := .int (nI ns)) (C := RX6) (T := TX6) (N := 12) hx hb hts hinX6 hown hK.1 hP 0 rfl rfl 2 (by decide) (hts _ fl_X6_35) (fun _ h9 => h9) rfl dX6_findScore_23 ?_
  refine n_iald (v := nI (ln ns)) hx hb hK.1 hP 2 0 rfl rfl (by omega) (by omega) hLs dX6_findScore_26 ?_
  refine ci_icmp_gt (X := ((i : Nat) : Int)) (Y := ((ln ns : Nat) : Int)) (tgt := 90) hx hb (sg_n (by omega)) (sg_n (by omega)) dX6_findScore_27 rfl (fun h27 => ?_) (fun h27 => ?_)
  · have hi1 : i = ln ns + 1 := by omega
    rw [hi1] at hP hD
    exact W.vret hx hb hr (fun tZ ht hW => ⟨⟨(u1, z0, z1), rfl, trivial, by show va_P D vwCl _ tZ.heap; rw [ht]; exact hP⟩, hS.F ht⟩) hS.2.2 dX6_findScore_90
  · refine lv_aload_n hx hb dX6_findScore_30 rfl (lv_at hl 1 rfl) ?_
    refine lv_aload_n hx hb dX6_findScore_31 rfl (lv_at hl 1 rfl) ?_
    refine lv_aload_n hx hb dX6_findScore_32 rfl (lv_at hl 1 rfl) ?_
    refine va_get (D := D) (ci := 6) (v := .int (nI ns)) (C := RX6) (T := TX6) (N := 12) hx hb hts hinX6 hown hK.1 hP 0 rfl rfl 2 (by decide) (hts _ fl_X6_35) (fun _ h9 => h9) rfl dX6_findScore_33 ?_
    refine lv_iload_n hx hb dX6_findScore_36 rfl (lv_at hl 0 rfl) ?_
    refine lv_iconst (v := nI 2) hx hb dX6_findScore_37 (by decide) ?_
    refine lv_isub hx hb dX6_findScore_38 ?_
    refine sg_callRi (va_runV (As := [.int (nI ns), .int ((nI i) - (nI 2))]) (rest := [.ref m]) (C := RX6) ⟨hx, hb, hml, hown, hts⟩ (c_X6_symbolAt l D cI cO m me ml mw wa wb wf li ord ns (nI u1.1) z0 z1 ge gL gW u1.2.1 u1.2.2.1 u1.2.2.2 (lmS (lmS lim 0 (sgPr (fun a b w => sgO (rwS ln wd ns) ord e a b w) (fun j => sgSy ln wd ns j) i)) 40 (sgPr (fun a b w => sgU (rwS ln wd ns) ord e a b w) (fun j => sgSy ln wd ns j) i)) ln wd ns ((nI i) - (nI 2)) i (by omega) hLs hl8 hWs (by have h9 := pk_sub_toInt (a := i) (b := 2) (by omega) (by omega); omega)) ⟨(sg_cB 2 hts mcX6_symbolAt ml_X6_41 in_X6 rfl rfl (by decide +kernel) ⟨Nat.le_of_ble_eq_true rfl, Nat.le_of_ble_eq_true rfl⟩), hts _ im_X6_symbolAt, hts _ se_X6_symbolAt⟩ (sg_pV (q0 := 0) hK hP [0, 1, 2, 3, 4, 5, 6, 7] rfl rfl rfl rfl) rfl rfl hl.1 rfl (lv_room (Nat.le_of_ble_eq_true rfl)) dX6_findScore_39 ⟨Nat.zero_le _, Nat.zero_le _⟩) ?_
    refine lv_aload_n hx hb dX6_findScore_42 rfl (lv_at hl 1 rfl) ?_
    refine lv_aload_n hx hb dX6_findScore_43 rfl (lv_at hl 1 rfl) ?_
    refine va_get (D := D) (ci := 6) (v := .int (nI ns)) (C := RX6) (T := TX6) (N := 12) hx hb hts hinX6 hown hK.1 hP 0 rfl rfl 2 (by decide) (hts _ fl_X6_35) (fun _ h9 => h9) rfl dX6_findScore_44 ?_
    refine lv_iload_n hx hb dX6_findScore_47 rfl (lv_at hl 0 rfl) ?_
    refine lv_iconst (v := nI 1) hx hb dX6_findScore_48 (by decide) ?_
    refine lv_isub hx hb dX6_findScore_49 ?_
    refine sg_callRi (va_runV (As := [.int (nI ns), .int ((nI i) - (nI 1))]) (rest := [.int (nI (sgSy ln wd ns i)), .ref m]) (C := RX6) ⟨hx, hb, hml, hown, hts⟩ (c_X6_symbolAt l D cI cO m me ml mw wa wb wf li ord ns (nI u1.1) z0 z1 ge gL gW u1.2.1 u1.2.2.1 u1.2.2.2 (lmS (lmS lim 0 (sgPr (fun a b w => sgO (rwS ln wd ns) ord e a b w) (fun j => sgSy ln wd ns j) i)) 40 (sgPr (fun a b w => sgU (rwS ln wd ns) ord e a b w) (fun j => sgSy ln wd ns j) i)) ln wd ns ((nI i) - (nI 1)) (i + 1) (by omega) hLs hl8 hWs (by have h9 := pk_sub_toInt (a := i) (b := 1) (by omega) (by omega); omega)) ⟨(sg_cB 2 hts mcX6_symbolAt ml_X6_41 in_X6 rfl rfl (by decide +kernel) ⟨Nat.le_of_ble_eq_true rfl, Nat.le_of_ble_eq_true rfl⟩), hts _ im_X6_symbolAt, hts _ se_X6_symbolAt⟩ (sg_pV (q0 := 0) hK hP [0, 1, 2, 3, 4, 5, 6, 7] rfl rfl rfl rfl) rfl rfl hl.1 rfl (lv_room (Nat.le_of_ble_eq_true rfl)) dX6_findScore_50 ⟨Nat.zero_le _, Nat.zero_le _⟩) ?_
    refine lv_aload_n hx hb dX6_findScore_53 rfl (lv_at hl 1 rfl) ?_
    refine lv_aload_n hx hb dX6_findScore_54 rfl (lv_at hl 1 rfl) ?_
    refine va_get (D := D) (ci := 6) (v := .int (nI ns)) (C := RX6) (T := TX6) (N := 12) hx hb hts hinX6 hown hK.1 hP 0 rfl rfl 2 (by decide) (hts _ fl_X6_35) (fun _ h9 => h9) rfl dX6_findScore_55 ?_
    refine lv_iload_n hx hb dX6_findScore_58 rfl (lv_at hl 0 rfl) ?_
    refine sg_callRi (va_runV (As := [.int (nI ns), .int (nI i)]) (rest := [.int (nI (sgSy ln wd ns (i + 1))), .int (nI (sgSy ln wd ns i)), .ref m]) (C := RX6) ⟨hx, hb, hml, hown, hts⟩ (c_X6_symbolAt l D cI cO m me ml mw wa wb wf li ord ns (nI u1.1) z0 z1 ge gL gW u1.2.1 u1.2.2.1 u1.2.2.2 (lmS (lmS lim 0 (sgPr (fun a b w => sgO (rwS ln wd ns) ord e a b w) (fun j => sgSy ln wd ns j) i)) 40 (sgPr (fun a b w => sgU (rwS ln wd ns) ord e a b w) (fun j => sgSy ln wd ns j) i)) ln wd ns (nI i) (i + 2) (by omega) hLs hl8 hWs (by have h9 := sg_n (n := i) (by omega); omega)) ⟨(sg_cB 2 hts mcX6_symbolAt ml_X6_41 in_X6 rfl rfl (by decide +kernel) ⟨Nat.le_of_ble_eq_true rfl, Nat.le_of_ble_eq_true rfl⟩), hts _ im_X6_symbolAt, hts _ se_X6_symbolAt⟩ (sg_pV (q0 := 0) hK hP [0, 1, 2, 3, 4, 5, 6, 7] rfl rfl rfl rfl) rfl rfl hl.1 rfl (lv_room (Nat.le_of_ble_eq_true rfl)) dX6_findScore_59 ⟨Nat.zero_le _, Nat.zero_le _⟩) ?_
    refine sg_callWv (fun _ => [(m, .inr (6, [.int (nI ord), .ref me, .int (nI ns), .ref ml, .ref mw, .int (nI u1.1), .ref wa, .ref wb, .ref wf, .long (lN (sgO (rwS ln wd ns) ord e (sgSy ln wd ns i) (sgSy ln wd ns (i + 1)) (sgSy ln wd ns (i + 2)))), .long (lN (sgU (rwS ln wd ns) ord e (sgSy ln wd ns i) (sgSy ln wd ns (i + 1)) (sgSy ln wd ns (i + 2)))), .ref li])), (me, .inl (cI, 4, .inl ge)), (ml, .inl (cI, 9, .inl gL)), (mw, .inl (cI, 72, .inl gW)), (wa, .inl (cI, 72, .inl u1.2.1)), (wb, .inl (cI, 72, .inl u1.2.2.1)), (wf, .inl (cI, 72, .inl u1.2.2.2)), (li, .inl (cI, 240, .inl (lmS (lmS lim 0 (sgPr (fun a b w => sgO (rwS ln wd ns) ord e a b w) (fun j => sgSy ln wd ns j) i)) 40 (sgPr (fun a b w => sgU (rwS ln wd ns) ord e a b w) (fun j => sgSy ln wd ns j) i))))]) [(true, 0), (true, 1), (true, 2), (true, 3), (true, 4), (true, 5), (true, 6), (true, 7)] (va_runV (As := [.int (nI (sgSy ln wd ns i)), .int (nI (sgSy ln wd ns (i + 1))), .int (nI (sgSy ln wd ns (i + 2)))]) (rest := []) (C := RX6) ⟨hx, hb, hml, hown, hts⟩ (c_X6_reckon l D cI cO m me ml mw wa wb wf li ord ns z0 z1 ge gL gW u1.2.1 u1.2.2.1 u1.2.2.2 (lmS (lmS lim 0 (sgPr (fun a b w => sgO (rwS ln wd ns) ord e a b w) (fun j => sgSy ln wd ns j) i)) 40 (sgPr (fun a b w => sgU (rwS ln wd ns) ord e a b w) (fun j => sgSy ln wd ns j) i)) u1.1 (rwS ln wd ns) e (sgSy ln wd ns i) (sgSy ln wd ns (i + 1)) (sgSy ln wd ns (i + 2)) hw1 hB (by omega) hE hge (sgSy_lt hds _) (sgSy_lt hds _) (sgSy_lt hds _)) ⟨(sg_cB 3 hts mcX6_reckon ml_X6_92 in_X6 rfl rfl (by decide +kernel) ⟨Nat.le_of_ble_eq_true rfl, Nat.le_of_ble_eq_true rfl⟩), hts _ im_X6_reckon, hts _ se_X6_reckon⟩ (sg_wV (q0 := 0) hK hP hD [0, 1, 2, 3, 4, 5, 6, 7] (by decide) rfl rfl rfl rfl) rfl rfl hl.1 rfl (lv_room (Nat.le_of_ble_eq_true rfl)) dX6_findScore_62 ⟨Nat.zero_le _, Nat.zero_le _⟩) hP hD hS [0, 1, 2, 3, 4, 5, 6, 7] rfl (fun _ => rfl) (by decide) (fun _ => rfl) (fun u62 H locs hw62 hP hD hS => ?_)
    refine lv_aload_n hx hb dX6_findScore_65 rfl (lv_at hl 1 rfl) ?_
    refine lv_iconst (v := nI 0) hx hb dX6_findScore_66 (by decide) ?_
    refine lv_aload_n hx hb dX6_findScore_67 rfl (lv_at hl 1 rfl) ?_
    refine va_get (D := D) (ci := 6) (v := .long (lN (sgO (rwS ln wd ns) ord e (sgSy ln wd ns i) (sgSy ln wd ns (i + 1)) (sgSy ln wd ns (i + 2))))) (C := RX6) (T := TX6) (N := 12) hx hb hts hinX6 hown hK.1 hP 0 rfl rfl 9 (by decide) (hts _ fl_X6_76) (fun _ h9 => h9) rfl dX6_findScore_68 ?_
    refine sg_callWv (fun _ => [(m, .inr (6, [.int (nI ord), .ref me, .int (nI ns), .ref ml, .ref mw, .int (nI u1.1), .ref wa, .ref wb, .ref wf, .long (lN (sgO (rwS ln wd ns) ord e (sgSy ln wd ns i) (sgSy ln wd ns (i + 1)) (sgSy ln wd ns (i + 2)))), .long (lN (sgU (rwS ln wd ns) ord e (sgSy ln wd ns i) (sgSy ln wd ns (i + 1)) (sgSy ln wd ns (i + 2)))), .ref li])), (me, .inl (cI, 4, .inl ge)), (ml, .inl (cI, 9, .inl gL)), (mw, .inl (cI, 72, .inl gW)), (wa, .inl (cI, 72, .inl u1.2.1)), (wb, .inl (cI, 72, .inl u1.2.2.1)), (wf, .inl (cI, 72, .inl u1.2.2.2)), (li, .inl (cI, 240, .inl (lmS (lmS (lmS lim 0 (sgPr (fun a b w => sgO (rwS ln wd ns) ord e a b w) (fun j => sgSy ln wd ns j) i)) 40 (sgPr (fun a b w => sgU (rwS ln wd ns) ord e a b w) (fun j => sgSy ln wd ns j) i)) 0 ((sgO (rwS ln wd ns) ord e (sgSy ln wd ns i) (sgSy ln wd ns (i + 1)) (sgSy ln wd ns (i + 2))) * (sgPr (fun a b w => sgO (rwS ln wd ns) ord e a b w) (fun j => sgSy ln wd ns j) i)))))]) [(true, 0), (true, 1), (true, 2), (true, 3), (true, 4), (true, 5), (true, 6), (true, 7)] (va_runV (As := [.int (nI 0), .long (lN (sgO (rwS ln wd ns) ord e (sgSy ln wd ns i) (sgSy ln wd ns (i + 1)) (sgSy ln wd ns (i + 2))))]) (rest := []) (C := RX6) ⟨hx, hb, hml, hown, hts⟩ (c_X6_times l D cI cO m me ml mw wa wb wf li ord ns (nI u1.1) (lN (sgO (rwS ln wd ns) ord e (sgSy ln wd ns i) (sgSy ln wd ns (i + 1)) (sgSy ln wd ns (i + 2)))) (lN (sgU (rwS ln wd ns) ord e (sgSy ln wd ns i) (sgSy ln wd ns (i + 1)) (sgSy ln wd ns (i + 2)))) ge gL gW u1.2.1 u1.2.2.1 u1.2.2.2 (lmS (lmS lim 0 (sgPr (fun a b w => sgO (rwS ln wd ns) ord e a b w) (fun j => sgSy ln wd ns j) i)) 40 (sgPr (fun a b w => sgU (rwS ln wd ns) ord e a b w) (fun j => sgSy ln wd ns j) i)) 0 (sgPr (fun a b w => sgO (rwS ln wd ns) ord e a b w) (fun j => sgSy ln wd ns j) i) (sgO (rwS ln wd ns) ord e (sgSy ln wd ns i) (sgSy ln wd ns (i + 1)) (sgSy ln wd ns (i + 2))) (by omega) (by have h9 := sgO_bd hB ho.2 hE (sgSy ln wd ns i) (sgSy ln wd ns (i + 1)) (sgSy ln wd ns (i + 2)); omega) (sgLim_o sgLim_S (by omega))) ⟨(sg_cB 2 hts mcX6_times ml_X6_102 in_X6 rfl rfl (by decide +kernel) ⟨Nat.le_of_ble_eq_true rfl, Nat.le_of_ble_eq_true rfl⟩), hts _ im_X6_times, hts _ se_X6_times⟩ (sg_wV (q0 := 0) hK hP hD [0, 1, 2, 3, 4, 5, 6, 7] (by decide) rfl rfl rfl rfl) rfl rfl hl.1 rfl (lv_room (Nat.le_of_ble_eq_true rfl)) dX6_findScore_71 ⟨Nat.zero_le _, Nat.zero_le _⟩) hP hD hS [0, 1, 2, 3, 4, 5, 6, 7] rfl (fun _ => rfl) (by decide) (fun _ => rfl) (fun u71 H locs hw71 hP hD hS => ?_)
    have hP := sg_arr (g := lmS (lmS lim 0 (sgO (rwS ln wd ns) ord e (sgSy ln wd ns i) (sgSy ln wd ns (i + 1)) (sgSy ln wd ns (i + 2)) * sgPr (fun a b w => sgO (rwS ln wd ns) ord e a b w) (fun j => sgSy ln wd ns j) i)) 40 (sgPr (fun a b w => sgU (rwS ln wd ns) ord e a b w) (fun j => sgSy ln wd ns j) i)) 7 hP rfl (fun j _ => lmS_swap _ _ _ _ j)
    have hD := sgD_adr (ws := [(m, .inr (6, [.int (nI ord), .ref me, .int (nI ns), .ref ml, .ref mw, .int (nI u1.1), .ref wa, .ref wb, .ref wf, .long (lN (sgO (rwS ln wd ns) ord e (sgSy ln wd ns i) (sgSy ln wd ns (i + 1)) (sgSy ln wd ns (i + 2)))), .long (lN (sgU (rwS ln wd ns) ord e (sgSy ln wd ns i) (sgSy ln wd ns (i + 1)) (sgSy ln wd ns (i + 2)))), .ref li])), (me, .inl (cI, 4, .inl ge)), (ml, .inl (cI, 9, .inl gL)), (mw, .inl (cI, 72, .inl gW)), (wa, .inl (cI, 72, .inl u1.2.1)), (wb, .inl (cI, 72, .inl u1.2.2.1)), (wf, .inl (cI, 72, .inl u1.2.2.2)), (li, .inl (cI, 240, .inl (lmS (lmS (lmS lim 0 (sgPr (fun a b w => sgO (rwS ln wd ns) ord e a b w) (fun j => sgSy ln wd ns j) i)) 40 (sgPr (fun a b w => sgU (rwS ln wd ns) ord e a b w) (fun j => sgSy ln wd ns j) i)) 0 ((sgO (rwS ln wd ns) ord e (sgSy ln wd ns i) (sgSy ln wd ns (i + 1)) (sgSy ln wd ns (i + 2))) * (sgPr (fun a b w => sgO (rwS ln wd ns) ord e a b w) (fun j => sgSy ln wd ns j) i)))))]) (ws' := [(m, .inr (6, [.int (nI ord), .ref me, .int (nI ns), .ref ml, .ref mw, .int (nI u1.1), .ref wa, .ref wb, .ref wf, .long (lN (sgO (rwS ln wd ns) ord e (sgSy ln wd ns i) (sgSy ln wd ns (i + 1)) (sgSy ln wd ns (i + 2)))), .long (lN (sgU (rwS ln wd ns) ord e (sgSy ln wd ns i) (sgSy ln wd ns (i + 1)) (sgSy ln wd ns (i + 2)))), .ref li])), (me, .inl (cI, 4, .inl ge)), (ml, .inl (cI, 9, .inl gL)), (mw, .inl (cI, 72, .inl gW)), (wa, .inl (cI, 72, .inl u1.2.1)), (wb, .inl (cI, 72, .inl u1.2.2.1)), (wf, .inl (cI, 72, .inl u1.2.2.2)), (li, .inl (cI, 240, .inl (lmS (lmS lim 0 (sgO (rwS ln wd ns) ord e (sgSy ln wd ns i) (sgSy ln wd ns (i + 1)) (sgSy ln wd ns (i + 2)) * sgPr (fun a b w => sgO (rwS ln wd ns) ord e a b w) (fun j => sgSy ln wd ns j) i)) 40 (sgPr (fun a b w => sgU (rwS ln wd ns) ord e a b w) (fun j => sgSy ln wd ns j) i))))]) rfl hD
    have hP : va_P D vwCl [(m, .inr (6, [.int (nI ord), .ref me, .int (nI ns), .ref ml, .ref mw, .int (nI u1.1), .ref wa, .ref wb, .ref wf, .long (lN (sgO (rwS ln wd ns) ord e (sgSy ln wd ns i) (sgSy ln wd ns (i + 1)) (sgSy ln wd ns (i + 2)))), .long (lN (sgU (rwS ln wd ns) ord e (sgSy ln wd ns i) (sgSy ln wd ns (i + 1)) (sgSy ln wd ns (i + 2)))), .ref li])), (me, .inl (cI, 4, .inl ge)), (ml, .inl (cI, 9, .inl gL)), (mw, .inl (cI, 72, .inl gW)), (wa, .inl (cI, 72, .inl u1.2.1)), (wb, .inl (cI, 72, .inl u1.2.2.1)), (wf, .inl (cI, 72, .inl u1.2.2.2)), (li, .inl (cI, 240, .inl (lmS (lmS lim 0 (sgO (rwS ln wd ns) ord e (sgSy ln wd ns i) (sgSy ln wd ns (i + 1)) (sgSy ln wd ns (i + 2)) * sgPr (fun a b w => sgO (rwS ln wd ns) ord e a b w) (fun j => sgSy ln wd ns j) i)) 40 (sgPr (fun a b w => sgU (rwS ln wd ns) ord e a b w) (fun j => sgSy ln wd ns j) i))))] H := hP
    have hD : va_D A [(m, .inr (6, [.int (nI ord), .ref me, .int (nI ns), .ref ml, .ref mw, .int (nI u1.1), .ref wa, .ref wb, .ref wf, .long (lN (sgO (rwS ln wd ns) ord e (sgSy ln wd ns i) (sgSy ln wd ns (i + 1)) (sgSy ln wd ns (i + 2)))), .long (lN (sgU (rwS ln wd ns) ord e (sgSy ln wd ns i) (sgSy ln wd ns (i + 1)) (sgSy ln wd ns (i + 2)))), .ref li])), (me, .inl (cI, 4, .inl ge)), (ml, .inl (cI, 9, .inl gL)), (mw, .inl (cI, 72, .inl gW)), (wa, .inl (cI, 72, .inl u1.2.1)), (wb, .inl (cI, 72, .inl u1.2.2.1)), (wf, .inl (cI, 72, .inl u1.2.2.2)), (li, .inl (cI, 240, .inl (lmS (lmS lim 0 (sgO (rwS ln wd ns) ord e (sgSy ln wd ns i) (sgSy ln wd ns (i + 1)) (sgSy ln wd ns (i + 2)) * sgPr (fun a b w => sgO (rwS ln wd ns) ord e a b w) (fun j => sgSy ln wd ns j) i)) 40 (sgPr (fun a b w => sgU (rwS ln wd ns) ord e a b w) (fun j => sgSy ln wd ns j) i))))] := hD
    refine lv_aload_n hx hb dX6_findScore_74 rfl (lv_at hl 1 rfl) ?_
    refine lv_bipush (v := nI 40) hx hb dX6_findScore_75 (by decide) ?_
    refine lv_aload_n hx hb dX6_findScore_77 rfl (lv_at hl 1 rfl) ?_
    refine va_get (D := D) (ci := 6) (v := .long (lN (sgU (rwS ln wd ns) ord e (sgSy ln wd ns i) (sgSy ln wd ns (i + 1)) (sgSy ln wd ns (i + 2))))) (C := RX6) (T := TX6) (N := 12) hx hb hts hinX6 hown hK.1 hP 0 rfl rfl 10 (by decide) (hts _ fl_X6_82) (fun _ h9 => h9) rfl dX6_findScore_78 ?_
    refine sg_callWv (fun _ => [(m, .inr (6, [.int (nI ord), .ref me, .int (nI ns), .ref ml, .ref mw, .int (nI u1.1), .ref wa, .ref wb, .ref wf, .long (lN (sgO (rwS ln wd ns) ord e (sgSy ln wd ns i) (sgSy ln wd ns (i + 1)) (sgSy ln wd ns (i + 2)))), .long (lN (sgU (rwS ln wd ns) ord e (sgSy ln wd ns i) (sgSy ln wd ns (i + 1)) (sgSy ln wd ns (i + 2)))), .ref li])), (me, .inl (cI, 4, .inl ge)), (ml, .inl (cI, 9, .inl gL)), (mw, .inl (cI, 72, .inl gW)), (wa, .inl (cI, 72, .inl u1.2.1)), (wb, .inl (cI, 72, .inl u1.2.2.1)), (wf, .inl (cI, 72, .inl u1.2.2.2)), (li, .inl (cI, 240, .inl (lmS (lmS (lmS lim 0 (sgO (rwS ln wd ns) ord e (sgSy ln wd ns i) (sgSy ln wd ns (i + 1)) (sgSy ln wd ns (i + 2)) * sgPr (fun a b w => sgO (rwS ln wd ns) ord e a b w) (fun j => sgSy ln wd ns j) i)) 40 (sgPr (fun a b w => sgU (rwS ln wd ns) ord e a b w) (fun j => sgSy ln wd ns j) i)) 40 ((sgU (rwS ln wd ns) ord e (sgSy ln wd ns i) (sgSy ln wd ns (i + 1)) (sgSy ln wd ns (i + 2))) * (sgPr (fun a b w => sgU (rwS ln wd ns) ord e a b w) (fun j => sgSy ln wd ns j) i)))))]) [(true, 0), (true, 1), (true, 2), (true, 3), (true, 4), (true, 5), (true, 6), (true, 7)] (va_runV (As := [.int (nI 40), .long (lN (sgU (rwS ln wd ns) ord e (sgSy ln wd ns i) (sgSy ln wd ns (i + 1)) (sgSy ln wd ns (i + 2))))]) (rest := []) (C := RX6) ⟨hx, hb, hml, hown, hts⟩ (c_X6_times l D cI cO m me ml mw wa wb wf li ord ns (nI u1.1) (lN (sgO (rwS ln wd ns) ord e (sgSy ln wd ns i) (sgSy ln wd ns (i + 1)) (sgSy ln wd ns (i + 2)))) (lN (sgU (rwS ln wd ns) ord e (sgSy ln wd ns i) (sgSy ln wd ns (i + 1)) (sgSy ln wd ns (i + 2)))) ge gL gW u1.2.1 u1.2.2.1 u1.2.2.2 (lmS (lmS lim 0 (sgO (rwS ln wd ns) ord e (sgSy ln wd ns i) (sgSy ln wd ns (i + 1)) (sgSy ln wd ns (i + 2)) * sgPr (fun a b w => sgO (rwS ln wd ns) ord e a b w) (fun j => sgSy ln wd ns j) i)) 40 (sgPr (fun a b w => sgU (rwS ln wd ns) ord e a b w) (fun j => sgSy ln wd ns j) i)) 40 (sgPr (fun a b w => sgU (rwS ln wd ns) ord e a b w) (fun j => sgSy ln wd ns j) i) (sgU (rwS ln wd ns) ord e (sgSy ln wd ns i) (sgSy ln wd ns (i + 1)) (sgSy ln wd ns (i + 2))) (by omega) (by have h9 := sgO_bd hB ho.2 hE (sgSy ln wd ns i) (sgSy ln wd ns (i + 1)) (sgSy ln wd ns (i + 2)); omega) sgLim_S) ⟨(sg_cB 2 hts mcX6_times ml_X6_102 in_X6 rfl rfl (by decide +kernel) ⟨Nat.le_of_ble_eq_true rfl, Nat.le_of_ble_eq_true rfl⟩), hts _ im_X6_times, hts _ se_X6_times⟩ (sg_wV (q0 := 0) hK hP hD [0, 1, 2, 3, 4, 5, 6, 7] (by decide) rfl rfl rfl rfl) rfl rfl hl.1 rfl (lv_room (Nat.le_of_ble_eq_true rfl)) dX6_findScore_81 ⟨Nat.zero_le _, Nat.zero_le _⟩) hP hD hS [0, 1, 2, 3, 4, 5, 6, 7] rfl (fun _ => rfl) (by decide) (fun _ => rfl) (fun u81 H locs hw81 hP hD hS => ?_)
    have hP := sg_arr (g := lmS (lmS lim 0 (sgO (rwS ln wd ns) ord e (sgSy ln wd ns i) (sgSy ln wd ns (i + 1)) (sgSy ln wd ns (i + 2)) * sgPr (fun a b w => sgO (rwS ln wd ns) ord e a b w) (fun j => sgSy ln wd ns j) i)) 40 (sgU (rwS ln wd ns) ord e (sgSy ln wd ns i) (sgSy ln wd ns (i + 1)) (sgSy ln wd ns (i + 2)) * sgPr (fun a b w => sgU (rwS ln wd ns) ord e a b w) (fun j => sgSy ln wd ns j) i)) 7 hP rfl (fun j _ => lmS_twice _ _ _ _ j)
    have hD := sgD_adr (ws := [(m, .inr (6, [.int (nI ord), .ref me, .int (nI ns), .ref ml, .ref mw, .int (nI u1.1), .ref wa, .ref wb, .ref wf, .long (lN (sgO (rwS ln wd ns) ord e (sgSy ln wd ns i) (sgSy ln wd ns (i + 1)) (sgSy ln wd ns (i + 2)))), .long (lN (sgU (rwS ln wd ns) ord e (sgSy ln wd ns i) (sgSy ln wd ns (i + 1)) (sgSy ln wd ns (i + 2)))), .ref li])), (me, .inl (cI, 4, .inl ge)), (ml, .inl (cI, 9, .inl gL)), (mw, .inl (cI, 72, .inl gW)), (wa, .inl (cI, 72, .inl u1.2.1)), (wb, .inl (cI, 72, .inl u1.2.2.1)), (wf, .inl (cI, 72, .inl u1.2.2.2)), (li, .inl (cI, 240, .inl (lmS (lmS (lmS lim 0 (sgO (rwS ln wd ns) ord e (sgSy ln wd ns i) (sgSy ln wd ns (i + 1)) (sgSy ln wd ns (i + 2)) * sgPr (fun a b w => sgO (rwS ln wd ns) ord e a b w) (fun j => sgSy ln wd ns j) i)) 40 (sgPr (fun a b w => sgU (rwS ln wd ns) ord e a b w) (fun j => sgSy ln wd ns j) i)) 40 ((sgU (rwS ln wd ns) ord e (sgSy ln wd ns i) (sgSy ln wd ns (i + 1)) (sgSy ln wd ns (i + 2))) * (sgPr (fun a b w => sgU (rwS ln wd ns) ord e a b w) (fun j => sgSy ln wd ns j) i)))))]) (ws' := [(m, .inr (6, [.int (nI ord), .ref me, .int (nI ns), .ref ml, .ref mw, .int (nI u1.1), .ref wa, .ref wb, .ref wf, .long (lN (sgO (rwS ln wd ns) ord e (sgSy ln wd ns i) (sgSy ln wd ns (i + 1)) (sgSy ln wd ns (i + 2)))), .long (lN (sgU (rwS ln wd ns) ord e (sgSy ln wd ns i) (sgSy ln wd ns (i + 1)) (sgSy ln wd ns (i + 2)))), .ref li])), (me, .inl (cI, 4, .inl ge)), (ml, .inl (cI, 9, .inl gL)), (mw, .inl (cI, 72, .inl gW)), (wa, .inl (cI, 72, .inl u1.2.1)), (wb, .inl (cI, 72, .inl u1.2.2.1)), (wf, .inl (cI, 72, .inl u1.2.2.2)), (li, .inl (cI, 240, .inl (lmS (lmS lim 0 (sgO (rwS ln wd ns) ord e (sgSy ln wd ns i) (sgSy ln wd ns (i + 1)) (sgSy ln wd ns (i + 2)) * sgPr (fun a b w => sgO (rwS ln wd ns) ord e a b w) (fun j => sgSy ln wd ns j) i)) 40 (sgU (rwS ln wd ns) ord e (sgSy ln wd ns i) (sgSy ln wd ns (i + 1)) (sgSy ln wd ns (i + 2)) * sgPr (fun a b w => sgU (rwS ln wd ns) ord e a b w) (fun j => sgSy ln wd ns j) i))))]) rfl hD
    have hP : va_P D vwCl [(m, .inr (6, [.int (nI ord), .ref me, .int (nI ns), .ref ml, .ref mw, .int (nI u1.1), .ref wa, .ref wb, .ref wf, .long (lN (sgO (rwS ln wd ns) ord e (sgSy ln wd ns i) (sgSy ln wd ns (i + 1)) (sgSy ln wd ns (i + 2)))), .long (lN (sgU (rwS ln wd ns) ord e (sgSy ln wd ns i) (sgSy ln wd ns (i + 1)) (sgSy ln wd ns (i + 2)))), .ref li])), (me, .inl (cI, 4, .inl ge)), (ml, .inl (cI, 9, .inl gL)), (mw, .inl (cI, 72, .inl gW)), (wa, .inl (cI, 72, .inl u1.2.1)), (wb, .inl (cI, 72, .inl u1.2.2.1)), (wf, .inl (cI, 72, .inl u1.2.2.2)), (li, .inl (cI, 240, .inl (lmS (lmS lim 0 (sgO (rwS ln wd ns) ord e (sgSy ln wd ns i) (sgSy ln wd ns (i + 1)) (sgSy ln wd ns (i + 2)) * sgPr (fun a b w => sgO (rwS ln wd ns) ord e a b w) (fun j => sgSy ln wd ns j) i)) 40 (sgU (rwS ln wd ns) ord e (sgSy ln wd ns i) (sgSy ln wd ns (i + 1)) (sgSy ln wd ns (i + 2)) * sgPr (fun a b w => sgU (rwS ln wd ns) ord e a b w) (fun j => sgSy ln wd ns j) i))))] H := hP
    have hD : va_D A [(m, .inr (6, [.int (nI ord), .ref me, .int (nI ns), .ref ml, .ref mw, .int (nI u1.1), .ref wa, .ref wb, .ref wf, .long (lN (sgO (rwS ln wd ns) ord e (sgSy ln wd ns i) (sgSy ln wd ns (i + 1)) (sgSy ln wd ns (i + 2)))), .long (lN (sgU (rwS ln wd ns) ord e (sgSy ln wd ns i) (sgSy ln wd ns (i + 1)) (sgSy ln wd ns (i + 2)))), .ref li])), (me, .inl (cI, 4, .inl ge)), (ml, .inl (cI, 9, .inl gL)), (mw, .inl (cI, 72, .inl gW)), (wa, .inl (cI, 72, .inl u1.2.1)), (wb, .inl (cI, 72, .inl u1.2.2.1)), (wf, .inl (cI, 72, .inl u1.2.2.2)), (li, .inl (cI, 240, .inl (lmS (lmS lim 0 (sgO (rwS ln wd ns) ord e (sgSy ln wd ns i) (sgSy ln wd ns (i + 1)) (sgSy ln wd ns (i + 2)) * sgPr (fun a b w => sgO (rwS ln wd ns) ord e a b w) (fun j => sgSy ln wd ns j) i)) 40 (sgU (rwS ln wd ns) ord e (sgSy ln wd ns i) (sgSy ln wd ns (i + 1)) (sgSy ln wd ns (i + 2)) * sgPr (fun a b w => sgU (rwS ln wd ns) ord e a b w) (fun j => sgSy ln wd ns j) i))))] := hD
    refine lv_iinc (v := nI (i + 1)) hx hb dX6_findScore_84 hl (k := 0) rfl (sg_inc _) (by decide) rfl (fun ls hl => ?_)
    have hl : lv_has ls 2 [(1, .int (nI (i + 1))), (0, .ref m)] := hl
    refine lv_goto (tgt := 17) hx hb dX6_findScore_87 rfl ?_
    exact ih17 _ _ _ _ ⟨i + 1, lN (sgO (rwS ln wd ns) ord e (sgSy ln wd ns i) (sgSy ln wd ns (i + 1)) (sgSy ln wd ns (i + 2))), lN (sgU (rwS ln wd ns) ord e (sgSy ln wd ns i) (sgSy ln wd ns (i + 1)) (sgSy ln wd ns (i + 2))), rfl, lv_sub hl [0, 1] rfl, hP, hD, hS, by omega⟩ (by omega)
set_option maxHeartbeats 4000000 in
set_option maxRecDepth 100000 in
theorem r_score_bad (l : Launch) (D : va_G) (cI cO : ClassId) (m : Nat) (me : Nat) (ml : Nat) (mw : Nat) (wa : Nat) (wb : Nat) (wf : Nat) (li : Nat) (ord : Nat) (ns : Nat) (ev : Int32) (y0 : Int64) (y1 : Int64) (ge : Nat → Int32) (gL : Nat → Int32) (gW : Nat → Int32) (ga : Nat → Int32) (gb : Nat → Int32) (gf : Nat → Int32) (lim : Nat → Int32) (v : Int32) (x : Int32) (hn : x.toInt < 0 ∨ 19 < x.toInt) : Met l yX6_score (.code yX6_score cX6_score 4 (some .int) :: sgT) ({ frames := 5, cells := 0, slots := 0, locals := 129 }) (sgPc D cI cO [.ref m, .int v, .int x] [(m, .inr (6, [.int (nI ord), .ref me, .int (nI ns), .ref ml, .ref mw, .int ev, .ref wa, .ref wb, .ref wf, .long y0, .long y1, .ref li])), (me, .inl (cI, 4, .inl ge)), (ml, .inl (cI, 9, .inl gL)), (mw, .inl (cI, 72, .inl gW)), (wa, .inl (cI, 72, .inl ga)), (wb, .inl (cI, 72, .inl gb)), (wf, .inl (cI, 72, .inl gf)), (li, .inl (cI, 240, .inl lim))]) (vp_Si (fun r => r = nI 0)) 0 0 (fun _ => False) := by
  refine Met.ofW (cc := cX6_score) (maxL := 4) (ret := (some .int)) (by decide) rfl ?_
  intro pZ eZ sZ mZ argsZ belowZ methZ cZ s₁ BZ hml hv
  obtain ⟨rfl, hP, hK⟩ := hv
  have hx := BZ.exec
  have hb := BZ.bytes
  have hr := BZ.returns
  have hts : ∀ wZ ∈ sgT, wZ.before ([.ref m, .int v, .int x] : List Value).toArray sZ = true := fun wZ h => atoms_spec (ws := (.code yX6_score cX6_score 4 (some .int) :: sgT)) BZ.pre wZ (List.mem_cons_of_mem _ h)
  have hown : sZ.vm.findClass RX6 = some mZ.cls := findClass_of_methodNamed BZ.named
  have hlocks := BZ.notSynchronized
  have hl := lv_entry ([.ref m, .int v, .int x]) (n := 4) (Nat.le_of_ble_eq_true rfl)
  rw [lg_entry_eq]
  generalize (lg_sl ([.ref m, .int v, .int x]) ++ List.replicate (4 - (lg_sl ([.ref m, .int v, .int x])).length) Slot.unset).toArray = ls at hl ⊢
  have hl : lv_has ls 4 [(0, .ref m), (1, .int v), (2, .int x)] := hl
  refine lv_iload_n hx hb dX6_score_0 rfl (lv_at hl 2 rfl) ?_
  refine ci_if_lt (X := x.toInt) (tgt := 10) hx hb rfl dX6_score_1 rfl (fun h1 => ?_) (fun h1 => ?_)
  · refine lv_iconst (v := nI 0) hx hb dX6_score_10 (by decide) ?_
    exact W.iret hx hb hr (fun tZ ht hW => ⟨_, rfl, rfl, ht⟩) (fun q h => by cases h) dX6_score_11
  · refine lv_iload_n hx hb dX6_score_4 rfl (lv_at hl 2 rfl) ?_
    refine lv_bipush (v := nI 19) hx hb dX6_score_5 (by decide) ?_
    refine ci_icmp_le (X := x.toInt) (Y := ((19 : Nat) : Int)) (tgt := 12) hx hb rfl (sg_n (by omega)) dX6_score_7 rfl (fun h7 => by exfalso; omega) (fun h7 => ?_)
    refine lv_iconst (v := nI 0) hx hb dX6_score_10 (by decide) ?_
    exact W.iret hx hb hr (fun tZ ht hW => ⟨_, rfl, rfl, ht⟩) (fun q h => by cases h) dX6_score_11
set_option maxHeartbeats 4000000 in
set_option maxRecDepth 100000 in
theorem c_X6_score (l : Launch) (D : va_G) (cI cO : ClassId) (m : Nat) (me : Nat) (ml : Nat) (mw : Nat) (wa : Nat) (wb : Nat) (wf : Nat) (li : Nat) (ord : Nat) (ns : Nat) (ev : Int32) (y0 : Int64) (y1 : Int64) (ge : Nat → Int32) (gL : Nat → Int32) (gW : Nat → Int32) (ga : Nat → Int32) (gb : Nat → Int32) (gf : Nat → Int32) (lim : Nat → Int32) (ln : Nat → Nat) (wd : Nat → Nat → Nat) (e : Nat → Nat) (v : Int32) (i : Nat) (hns : ns ≤ 8) (hMm : sgMm ln wd ns gL gW) (ho : 1 ≤ ord ∧ ord ≤ 3) (hE : sgE e) (hge : ∀ k, 1 ≤ k → k ≤ 3 → ge k = nI (e k)) (hi : i ≤ 19) : Met l yX6_score (.code yX6_score cX6_score 4 (some .int) :: sgT) ({ frames := 5, cells := 0, slots := 0, locals := 129 }) (sgWc D cI cO [.ref m, .int v, .int (nI i)] [(m, .inr (6, [.int (nI ord), .ref me, .int (nI ns), .ref ml, .ref mw, .int ev, .ref wa, .ref wb, .ref wf, .long y0, .long y1, .ref li])), (me, .inl (cI, 4, .inl ge)), (ml, .inl (cI, 9, .inl gL)), (mw, .inl (cI, 72, .inl gW)), (wa, .inl (cI, 72, .inl ga)), (wb, .inl (cI, 72, .inl gb)), (wf, .inl (cI, 72, .inl gf)), (li, .inl (cI, 240, .inl lim))]) (va_Qi (fun (r : Int32) (uZ : (Nat × (Nat → Int32) × (Nat → Int32) × (Nat → Int32)) × Int64 × Int64) => r = if v = 0 then nI (dg 4294967296 i (sgPr (fun a b w => sgO (rwS ln wd ns) ord e a b w) (fun j => sgSy ln wd ns j) (ln ns + 1))) else nI (dg 4294967296 i (sgPr (fun a b w => sgU (rwS ln wd ns) ord e a b w) (fun j => sgSy ln wd ns j) (ln ns + 1)))) (fun uZ t => va_P D vwCl [(m, .inr (6, [.int (nI ord), .ref me, .int (nI ns), .ref ml, .ref mw, .int (nI uZ.1.1), .ref wa, .ref wb, .ref wf, .long uZ.2.1, .long uZ.2.2, .ref li])), (me, .inl (cI, 4, .inl ge)), (ml, .inl (cI, 9, .inl gL)), (mw, .inl (cI, 72, .inl gW)), (wa, .inl (cI, 72, .inl uZ.1.2.1)), (wb, .inl (cI, 72, .inl uZ.1.2.2.1)), (wf, .inl (cI, 72, .inl uZ.1.2.2.2)), (li, .inl (cI, 240, .inl (lmS (lmS lim 0 (sgPr (fun a b w => sgO (rwS ln wd ns) ord e a b w) (fun j => sgSy ln wd ns j) (ln ns + 1))) 40 (sgPr (fun a b w => sgU (rwS ln wd ns) ord e a b w) (fun j => sgSy ln wd ns j) (ln ns + 1)))))] t.heap) (xA [(m, .inr (6, [.int (nI ord), .ref me, .int (nI ns), .ref ml, .ref mw, .int ev, .ref wa, .ref wb, .ref wf, .long y0, .long y1, .ref li])), (me, .inl (cI, 4, .inl ge)), (ml, .inl (cI, 9, .inl gL)), (mw, .inl (cI, 72, .inl gW)), (wa, .inl (cI, 72, .inl ga)), (wb, .inl (cI, 72, .inl gb)), (wf, .inl (cI, 72, .inl gf)), (li, .inl (cI, 240, .inl lim))])) 0 0 (xA [(m, .inr (6, [.int (nI ord), .ref me, .int (nI ns), .ref ml, .ref mw, .int ev, .ref wa, .ref wb, .ref wf, .long y0, .long y1, .ref li])), (me, .inl (cI, 4, .inl ge)), (ml, .inl (cI, 9, .inl gL)), (mw, .inl (cI, 72, .inl gW)), (wa, .inl (cI, 72, .inl ga)), (wb, .inl (cI, 72, .inl gb)), (wf, .inl (cI, 72, .inl gf)), (li, .inl (cI, 240, .inl lim))]) := by
  refine Met.ofW (cc := cX6_score) (maxL := 4) (ret := (some .int)) (by decide) rfl ?_
  intro pZ eZ sZ mZ argsZ belowZ methZ cZ s₁ BZ hml hv
  obtain ⟨rfl, hP, hK, hD0⟩ := hv
  have hx := BZ.exec
  have hb := BZ.bytes
  have hr := BZ.returns
  have hts : ∀ wZ ∈ sgT, wZ.before ([.ref m, .int v, .int (nI i)] : List Value).toArray sZ = true := fun wZ h => atoms_spec (ws := (.code yX6_score cX6_score 4 (some .int) :: sgT)) BZ.pre wZ (List.mem_cons_of_mem _ h)
  have hown : sZ.vm.findClass RX6 = some mZ.cls := findClass_of_methodNamed BZ.named
  have hlocks := BZ.notSynchronized
  have hD : va_D (xA [(m, .inr (6, [.int (nI ord), .ref me, .int (nI ns), .ref ml, .ref mw, .int ev, .ref wa, .ref wb, .ref wf, .long y0, .long y1, .ref li])), (me, .inl (cI, 4, .inl ge)), (ml, .inl (cI, 9, .inl gL)), (mw, .inl (cI, 72, .inl gW)), (wa, .inl (cI, 72, .inl ga)), (wb, .inl (cI, 72, .inl gb)), (wf, .inl (cI, 72, .inl gf)), (li, .inl (cI, 240, .inl lim))]) [(m, .inr (6, [.int (nI ord), .ref me, .int (nI ns), .ref ml, .ref mw, .int ev, .ref wa, .ref wb, .ref wf, .long y0, .long y1, .ref li])), (me, .inl (cI, 4, .inl ge)), (ml, .inl (cI, 9, .inl gL)), (mw, .inl (cI, 72, .inl gW)), (wa, .inl (cI, 72, .inl ga)), (wb, .inl (cI, 72, .inl gb)), (wf, .inl (cI, 72, .inl gf)), (li, .inl (cI, 240, .inl lim))] := ⟨hD0.1, fun k q h => ⟨k, q.2, h⟩⟩
  generalize hAe : xA [(m, .inr (6, [.int (nI ord), .ref me, .int (nI ns), .ref ml, .ref mw, .int ev, .ref wa, .ref wb, .ref wf, .long y0, .long y1, .ref li])), (me, .inl (cI, 4, .inl ge)), (ml, .inl (cI, 9, .inl gL)), (mw, .inl (cI, 72, .inl gW)), (wa, .inl (cI, 72, .inl ga)), (wb, .inl (cI, 72, .inl gb)), (wf, .inl (cI, 72, .inl gf)), (li, .inl (cI, 240, .inl lim))] = A at hD ⊢
  have hS : va_S A sZ.heap sZ.heap [] := va_S.rf
  have hl := lv_entry ([.ref m, .int v, .int (nI i)]) (n := 4) (Nat.le_of_ble_eq_true rfl)
  rw [lg_entry_eq]
  generalize (lg_sl ([.ref m, .int v, .int (nI i)]) ++ List.replicate (4 - (lg_sl ([.ref m, .int v, .int (nI i)])).length) Slot.unset).toArray = ls at hl ⊢
  have hl : lv_has ls 4 [(0, .ref m), (1, .int v), (2, .int (nI i))] := hl
  have hP : va_P D vwCl [(m, .inr (6, [.int (nI ord), .ref me, .int (nI ns), .ref ml, .ref mw, .int ev, .ref wa, .ref wb, .ref wf, .long y0, .long y1, .ref li])), (me, .inl (cI, 4, .inl ge)), (ml, .inl (cI, 9, .inl gL)), (mw, .inl (cI, 72, .inl gW)), (wa, .inl (cI, 72, .inl ga)), (wb, .inl (cI, 72, .inl gb)), (wf, .inl (cI, 72, .inl gf)), (li, .inl (cI, 240, .inl lim))] sZ.heap := hP
  refine lv_iload_n hx hb dX6_score_0 rfl (lv_at hl 2 rfl) ?_
  refine ci_if_lt (X := ((i : Nat) : Int)) (tgt := 10) hx hb (sg_n (by omega)) dX6_score_1 rfl (fun h1 => by exfalso; omega) (fun h1 => ?_)
  refine lv_iload_n hx hb dX6_score_4 rfl (lv_at hl 2 rfl) ?_
  refine lv_bipush (v := nI 19) hx hb dX6_score_5 (by decide) ?_
  refine ci_icmp_le (X := ((i : Nat) : Int)) (Y := ((19 : Nat) : Int)) (tgt := 12) hx hb (sg_n (by omega)) (sg_n (by omega)) dX6_score_7 rfl (fun h7 => ?_) (fun h7 => by exfalso; omega)
  refine lv_aload_n hx hb dX6_score_12 rfl (lv_at hl 0 rfl) ?_
  refine sg_callWv (fun u13 => [(m, .inr (6, [.int (nI ord), .ref me, .int (nI ns), .ref ml, .ref mw, .int (nI u13.1.1), .ref wa, .ref wb, .ref wf, .long u13.2.1, .long u13.2.2, .ref li])), (me, .inl (cI, 4, .inl ge)), (ml, .inl (cI, 9, .inl gL)), (mw, .inl (cI, 72, .inl gW)), (wa, .inl (cI, 72, .inl u13.1.2.1)), (wb, .inl (cI, 72, .inl u13.1.2.2.1)), (wf, .inl (cI, 72, .inl u13.1.2.2.2)), (li, .inl (cI, 240, .inl (lmS (lmS lim 0 (sgPr (fun a b w => sgO (rwS ln wd ns) ord e a b w) (fun j => sgSy ln wd ns j) (ln ns + 1))) 40 (sgPr (fun a b w => sgU (rwS ln wd ns) ord e a b w) (fun j => sgSy ln wd ns j) (ln ns + 1)))))]) [(true, 0), (true, 1), (true, 2), (true, 3), (true, 4), (true, 5), (true, 6), (true, 7)] (va_runV (As := []) (rest := []) (C := RX6) ⟨hx, hb, hml, hown, hts⟩ (c_X6_findScore l D cI cO m me ml mw wa wb wf li ord ns ev y0 y1 ge gL gW ga gb gf lim ln wd e (by omega) hMm (by omega) hE hge) ⟨(sg_cB 0 hts mcX6_findScore ml_X6_106 in_X6 rfl rfl (by decide +kernel) ⟨Nat.le_of_ble_eq_true rfl, Nat.le_of_ble_eq_true rfl⟩), hts _ im_X6_findScore, hts _ se_X6_findScore⟩ (sg_wV (q0 := 0) hK hP hD [0, 1, 2, 3, 4, 5, 6, 7] (by decide) rfl rfl rfl rfl) rfl rfl hl.1 rfl (lv_room (Nat.le_of_ble_eq_true rfl)) dX6_score_13 ⟨Nat.zero_le _, Nat.zero_le _⟩) hP hD hS [0, 1, 2, 3, 4, 5, 6, 7] rfl (fun _ => rfl) (by decide) (fun _ => rfl) (fun u13 H locs hw13 hP hD hS => ?_)
  refine lv_iload_n hx hb dX6_score_16 rfl (lv_at hl 1 rfl) ?_
  refine ci_if_ne (X := v.toInt) (tgt := 24) hx hb rfl dX6_score_17 rfl (fun h17 => ?_) (fun h17 => ?_)
  · refine lv_bipush (v := nI 40) hx hb dX6_score_24 (by decide) ?_
    refine lv_istore_n hx hb dX6_score_26 rfl hl (by decide) rfl (fun ls hl => ?_)
    have hl : lv_has ls 4 [(3, .int (nI 40)), (0, .ref m), (1, .int v), (2, .int (nI i))] := hl
    refine lv_aload_n hx hb dX6_score_27 rfl (lv_at hl 1 rfl) ?_
    refine va_get (D := D) (ci := 6) (v := .ref li) (C := RX6) (T := TX6) (N := 12) hx hb hts hinX6 hown hK.1 hP 0 rfl rfl 11 (by decide) (hts _ fl_X6_32) (fun _ h9 => h9) rfl dX6_score_28 ?_
    refine lv_iload_n hx hb dX6_score_31 rfl (lv_at hl 0 rfl) ?_
    refine lv_iconst (v := nI 2) hx hb dX6_score_32 (by decide) ?_
    refine lv_iload_n hx hb dX6_score_33 rfl (lv_at hl 3 rfl) ?_
    refine n_imul hx hb dX6_score_34 ?_
    refine n_iadd hx hb dX6_score_35 ?_
    refine n_iald (v := nI (dg 65536 (2 * i) (sgPr (fun a b w => sgU (rwS ln wd ns) ord e a b w) (fun j => sgSy ln wd ns j) (ln ns + 1)))) hx hb hK.1 hP 7 0 rfl rfl (by omega) (by omega) (by skip; exact lmS_in (q := 40) (j := 2 * i) (by omega)) dX6_score_36 ?_
    refine lv_aload_n hx hb dX6_score_37 rfl (lv_at hl 1 rfl) ?_
    refine va_get (D := D) (ci := 6) (v := .ref li) (C := RX6) (T := TX6) (N := 12) hx hb hts hinX6 hown hK.1 hP 0 rfl rfl 11 (by decide) (hts _ fl_X6_32) (fun _ h9 => h9) rfl dX6_score_38 ?_
    refine lv_iload_n hx hb dX6_score_41 rfl (lv_at hl 0 rfl) ?_
    refine lv_iconst (v := nI 2) hx hb dX6_score_42 (by decide) ?_
    refine lv_iload_n hx hb dX6_score_43 rfl (lv_at hl 3 rfl) ?_
    refine n_imul hx hb dX6_score_44 ?_
    refine n_iadd hx hb dX6_score_45 ?_
    refine lv_iconst (v := nI 1) hx hb dX6_score_46 (by decide) ?_
    refine n_iadd hx hb dX6_score_47 ?_
    refine n_iald (v := nI (dg 65536 (2 * i + 1) (sgPr (fun a b w => sgU (rwS ln wd ns) ord e a b w) (fun j => sgSy ln wd ns j) (ln ns + 1)))) hx hb hK.1 hP 7 0 rfl rfl (by omega) (by omega) (by rw [Nat.add_assoc]; exact lmS_in (q := 40) (j := 2 * i + 1) (by omega)) dX6_score_48 ?_
    refine lv_bipush (v := nI 16) hx hb dX6_score_49 (by decide) ?_
    refine lv_ishl hx hb dX6_score_51 ?_
    refine lv_ior hx hb dX6_score_52 ?_
    refine sw_i (y := nI (dg 65536 (2 * i) (sgPr (fun a b w => sgU (rwS ln wd ns) ord e a b w) (fun j => sgSy ln wd ns j) (ln ns + 1)) + 65536 * dg 65536 (2 * i + 1) (sgPr (fun a b w => sgU (rwS ln wd ns) ord e a b w) (fun j => sgSy ln wd ns j) (ln ns + 1)))) (sg_two (dg_lt (by decide) _ _) (dg_lt (by decide) _ _)) ?_
    exact W.iret hx hb hr (fun tZ ht hW => ⟨⟨_, u13, rfl, (by (first | rw [if_pos (Int32.toInt_inj.mp h17)] | rw [if_neg (fun q => h17 (by rw [q]; rfl))]); exact congrArg nI (dg_two 65536 _ _).symm), by show va_P D vwCl _ tZ.heap; rw [ht]; exact hP⟩, hS.F ht⟩) hS.2.2 dX6_score_53
  · refine lv_iconst (v := nI 0) hx hb dX6_score_20 (by decide) ?_
    refine lv_goto (tgt := 26) hx hb dX6_score_21 rfl ?_
    refine lv_istore_n hx hb dX6_score_26 rfl hl (by decide) rfl (fun ls hl => ?_)
    have hl : lv_has ls 4 [(3, .int (nI 0)), (0, .ref m), (1, .int v), (2, .int (nI i))] := hl
    refine lv_aload_n hx hb dX6_score_27 rfl (lv_at hl 1 rfl) ?_
    refine va_get (D := D) (ci := 6) (v := .ref li) (C := RX6) (T := TX6) (N := 12) hx hb hts hinX6 hown hK.1 hP 0 rfl rfl 11 (by decide) (hts _ fl_X6_32) (fun _ h9 => h9) rfl dX6_score_28 ?_
    refine lv_iload_n hx hb dX6_score_31 rfl (lv_at hl 0 rfl) ?_
    refine lv_iconst (v := nI 2) hx hb dX6_score_32 (by decide) ?_
    refine lv_iload_n hx hb dX6_score_33 rfl (lv_at hl 3 rfl) ?_
    refine n_imul hx hb dX6_score_34 ?_
    refine n_iadd hx hb dX6_score_35 ?_
    refine n_iald (v := nI (dg 65536 (2 * i) (sgPr (fun a b w => sgO (rwS ln wd ns) ord e a b w) (fun j => sgSy ln wd ns j) (ln ns + 1)))) hx hb hK.1 hP 7 0 rfl rfl (by omega) (by omega) (by rw [lmS_out (q := 40) (by omega)]; skip; exact lmS_in (q := 0) (j := 2 * i) (by omega)) dX6_score_36 ?_
    refine lv_aload_n hx hb dX6_score_37 rfl (lv_at hl 1 rfl) ?_
    refine va_get (D := D) (ci := 6) (v := .ref li) (C := RX6) (T := TX6) (N := 12) hx hb hts hinX6 hown hK.1 hP 0 rfl rfl 11 (by decide) (hts _ fl_X6_32) (fun _ h9 => h9) rfl dX6_score_38 ?_
    refine lv_iload_n hx hb dX6_score_41 rfl (lv_at hl 0 rfl) ?_
    refine lv_iconst (v := nI 2) hx hb dX6_score_42 (by decide) ?_
    refine lv_iload_n hx hb dX6_score_43 rfl (lv_at hl 3 rfl) ?_
    refine n_imul hx hb dX6_score_44 ?_
    refine n_iadd hx hb dX6_score_45 ?_
    refine lv_iconst (v := nI 1) hx hb dX6_score_46 (by decide) ?_
    refine n_iadd hx hb dX6_score_47 ?_
    refine n_iald (v := nI (dg 65536 (2 * i + 1) (sgPr (fun a b w => sgO (rwS ln wd ns) ord e a b w) (fun j => sgSy ln wd ns j) (ln ns + 1)))) hx hb hK.1 hP 7 0 rfl rfl (by omega) (by omega) (by rw [lmS_out (q := 40) (by omega)]; rw [Nat.add_assoc]; exact lmS_in (q := 0) (j := 2 * i + 1) (by omega)) dX6_score_48 ?_
    refine lv_bipush (v := nI 16) hx hb dX6_score_49 (by decide) ?_
    refine lv_ishl hx hb dX6_score_51 ?_
    refine lv_ior hx hb dX6_score_52 ?_
    refine sw_i (y := nI (dg 65536 (2 * i) (sgPr (fun a b w => sgO (rwS ln wd ns) ord e a b w) (fun j => sgSy ln wd ns j) (ln ns + 1)) + 65536 * dg 65536 (2 * i + 1) (sgPr (fun a b w => sgO (rwS ln wd ns) ord e a b w) (fun j => sgSy ln wd ns j) (ln ns + 1)))) (sg_two (dg_lt (by decide) _ _) (dg_lt (by decide) _ _)) ?_
    exact W.iret hx hb hr (fun tZ ht hW => ⟨⟨_, u13, rfl, (by (first | rw [if_pos (Int32.toInt_inj.mp h17)] | rw [if_neg (fun q => h17 (by rw [q]; rfl))]); exact congrArg nI (dg_two 65536 _ _).symm), by show va_P D vwCl _ tZ.heap; rw [ht]; exact hP⟩, hS.F ht⟩) hS.2.2 dX6_score_53
set_option maxHeartbeats 4000000 in
set_option maxRecDepth 100000 in
theorem c_X6_keep (l : Launch) (D : va_G) (cI cO : ClassId) (m : Nat) (me : Nat) (ml : Nat) (mw : Nat) (wa : Nat) (wb : Nat) (wf : Nat) (li : Nat) (ord : Nat) (ns : Nat) (ev : Int32) (y0 : Int64) (y1 : Int64) (ge : Nat → Int32) (gL : Nat → Int32) (gW : Nat → Int32) (ga : Nat → Int32) (gb : Nat → Int32) (gf : Nat → Int32) (lim : Nat → Int32) (ln : Nat → Nat) (wd : Nat → Nat → Nat) (e : Nat → Nat) (hns : ns ≤ 8) (hMm : sgMm ln wd ns gL gW) (ho : 1 ≤ ord ∧ ord ≤ 3) (hE : sgE e) (hge : ∀ k, 1 ≤ k → k ≤ 3 → ge k = nI (e k)) : Met l yX6_keep (.code yX6_keep cX6_keep 2 none :: sgT) ({ frames := 5, cells := 0, slots := 0, locals := 129 }) (sgWc D cI cO [.ref m] [(m, .inr (6, [.int (nI ord), .ref me, .int (nI ns), .ref ml, .ref mw, .int ev, .ref wa, .ref wb, .ref wf, .long y0, .long y1, .ref li])), (me, .inl (cI, 4, .inl ge)), (ml, .inl (cI, 9, .inl gL)), (mw, .inl (cI, 72, .inl gW)), (wa, .inl (cI, 72, .inl ga)), (wb, .inl (cI, 72, .inl gb)), (wf, .inl (cI, 72, .inl gf)), (li, .inl (cI, 240, .inl lim))]) (va_Qv (fun uZ : (Nat × (Nat → Int32) × (Nat → Int32) × (Nat → Int32)) × Int64 × Int64 => True) (fun uZ t => va_P D vwCl [(m, .inr (6, [.int (nI ord), .ref me, .int (nI ns), .ref ml, .ref mw, .int (nI uZ.1.1), .ref wa, .ref wb, .ref wf, .long uZ.2.1, .long uZ.2.2, .ref li])), (me, .inl (cI, 4, .inl ge)), (ml, .inl (cI, 9, .inl gL)), (mw, .inl (cI, 72, .inl gW)), (wa, .inl (cI, 72, .inl uZ.1.2.1)), (wb, .inl (cI, 72, .inl uZ.1.2.2.1)), (wf, .inl (cI, 72, .inl uZ.1.2.2.2)), (li, .inl (cI, 240, .inl (lmS (lmS (lmS (lmS lim 0 (sgPr (fun a b w => sgO (rwS ln wd ns) ord e a b w) (fun j => sgSy ln wd ns j) (ln ns + 1))) 40 (sgPr (fun a b w => sgU (rwS ln wd ns) ord e a b w) (fun j => sgSy ln wd ns j) (ln ns + 1))) 80 (sgPr (fun a b w => sgO (rwS ln wd ns) ord e a b w) (fun j => sgSy ln wd ns j) (ln ns + 1))) 120 (sgPr (fun a b w => sgU (rwS ln wd ns) ord e a b w) (fun j => sgSy ln wd ns j) (ln ns + 1)))))] t.heap) (xA [(m, .inr (6, [.int (nI ord), .ref me, .int (nI ns), .ref ml, .ref mw, .int ev, .ref wa, .ref wb, .ref wf, .long y0, .long y1, .ref li])), (me, .inl (cI, 4, .inl ge)), (ml, .inl (cI, 9, .inl gL)), (mw, .inl (cI, 72, .inl gW)), (wa, .inl (cI, 72, .inl ga)), (wb, .inl (cI, 72, .inl gb)), (wf, .inl (cI, 72, .inl gf)), (li, .inl (cI, 240, .inl lim))])) 0 0 (xA [(m, .inr (6, [.int (nI ord), .ref me, .int (nI ns), .ref ml, .ref mw, .int ev, .ref wa, .ref wb, .ref wf, .long y0, .long y1, .ref li])), (me, .inl (cI, 4, .inl ge)), (ml, .inl (cI, 9, .inl gL)), (mw, .inl (cI, 72, .inl gW)), (wa, .inl (cI, 72, .inl ga)), (wb, .inl (cI, 72, .inl gb)), (wf, .inl (cI, 72, .inl gf)), (li, .inl (cI, 240, .inl lim))]) := by
  refine Met.ofW (cc := cX6_keep) (maxL := 2) (ret := none) (by decide) rfl ?_
  intro pZ eZ sZ mZ argsZ belowZ methZ cZ s₁ BZ hml hv
  obtain ⟨rfl, hP, hK, hD0⟩ := hv
  have hx := BZ.exec
  have hb := BZ.bytes
  have hr := BZ.returns
  have hts : ∀ wZ ∈ sgT, wZ.before ([.ref m] : List Value).toArray sZ = true := fun wZ h => atoms_spec (ws := (.code yX6_keep cX6_keep 2 none :: sgT)) BZ.pre wZ (List.mem_cons_of_mem _ h)
  have hown : sZ.vm.findClass RX6 = some mZ.cls := findClass_of_methodNamed BZ.named
  have hlocks := BZ.notSynchronized
  have hD : va_D (xA [(m, .inr (6, [.int (nI ord), .ref me, .int (nI ns), .ref ml, .ref mw, .int ev, .ref wa, .ref wb, .ref wf, .long y0, .long y1, .ref li])), (me, .inl (cI, 4, .inl ge)), (ml, .inl (cI, 9, .inl gL)), (mw, .inl (cI, 72, .inl gW)), (wa, .inl (cI, 72, .inl ga)), (wb, .inl (cI, 72, .inl gb)), (wf, .inl (cI, 72, .inl gf)), (li, .inl (cI, 240, .inl lim))]) [(m, .inr (6, [.int (nI ord), .ref me, .int (nI ns), .ref ml, .ref mw, .int ev, .ref wa, .ref wb, .ref wf, .long y0, .long y1, .ref li])), (me, .inl (cI, 4, .inl ge)), (ml, .inl (cI, 9, .inl gL)), (mw, .inl (cI, 72, .inl gW)), (wa, .inl (cI, 72, .inl ga)), (wb, .inl (cI, 72, .inl gb)), (wf, .inl (cI, 72, .inl gf)), (li, .inl (cI, 240, .inl lim))] := ⟨hD0.1, fun k q h => ⟨k, q.2, h⟩⟩
  generalize hAe : xA [(m, .inr (6, [.int (nI ord), .ref me, .int (nI ns), .ref ml, .ref mw, .int ev, .ref wa, .ref wb, .ref wf, .long y0, .long y1, .ref li])), (me, .inl (cI, 4, .inl ge)), (ml, .inl (cI, 9, .inl gL)), (mw, .inl (cI, 72, .inl gW)), (wa, .inl (cI, 72, .inl ga)), (wb, .inl (cI, 72, .inl gb)), (wf, .inl (cI, 72, .inl gf)), (li, .inl (cI, 240, .inl lim))] = A at hD ⊢
  have hS : va_S A sZ.heap sZ.heap [] := va_S.rf
  have hl := lv_entry ([.ref m]) (n := 2) (Nat.le_of_ble_eq_true rfl)
  rw [lg_entry_eq]
  generalize (lg_sl ([.ref m]) ++ List.replicate (2 - (lg_sl ([.ref m])).length) Slot.unset).toArray = ls at hl ⊢
  have hl : lv_has ls 2 [(0, .ref m)] := hl
  have hP : va_P D vwCl [(m, .inr (6, [.int (nI ord), .ref me, .int (nI ns), .ref ml, .ref mw, .int ev, .ref wa, .ref wb, .ref wf, .long y0, .long y1, .ref li])), (me, .inl (cI, 4, .inl ge)), (ml, .inl (cI, 9, .inl gL)), (mw, .inl (cI, 72, .inl gW)), (wa, .inl (cI, 72, .inl ga)), (wb, .inl (cI, 72, .inl gb)), (wf, .inl (cI, 72, .inl gf)), (li, .inl (cI, 240, .inl lim))] sZ.heap := hP
  refine lv_aload_n hx hb dX6_keep_0 rfl (lv_at hl 0 rfl) ?_
  refine sg_callWv (fun u1 => [(m, .inr (6, [.int (nI ord), .ref me, .int (nI ns), .ref ml, .ref mw, .int (nI u1.1.1), .ref wa, .ref wb, .ref wf, .long u1.2.1, .long u1.2.2, .ref li])), (me, .inl (cI, 4, .inl ge)), (ml, .inl (cI, 9, .inl gL)), (mw, .inl (cI, 72, .inl gW)), (wa, .inl (cI, 72, .inl u1.1.2.1)), (wb, .inl (cI, 72, .inl u1.1.2.2.1)), (wf, .inl (cI, 72, .inl u1.1.2.2.2)), (li, .inl (cI, 240, .inl (lmS (lmS lim 0 (sgPr (fun a b w => sgO (rwS ln wd ns) ord e a b w) (fun j => sgSy ln wd ns j) (ln ns + 1))) 40 (sgPr (fun a b w => sgU (rwS ln wd ns) ord e a b w) (fun j => sgSy ln wd ns j) (ln ns + 1)))))]) [(true, 0), (true, 1), (true, 2), (true, 3), (true, 4), (true, 5), (true, 6), (true, 7)] (va_runV (As := []) (rest := []) (C := RX6) ⟨hx, hb, hml, hown, hts⟩ (c_X6_findScore l D cI cO m me ml mw wa wb wf li ord ns ev y0 y1 ge gL gW ga gb gf lim ln wd e (by omega) hMm (by omega) hE hge) ⟨(sg_cB 0 hts mcX6_findScore ml_X6_106 in_X6 rfl rfl (by decide +kernel) ⟨Nat.le_of_ble_eq_true rfl, Nat.le_of_ble_eq_true rfl⟩), hts _ im_X6_findScore, hts _ se_X6_findScore⟩ (sg_wV (q0 := 0) hK hP hD [0, 1, 2, 3, 4, 5, 6, 7] (by decide) rfl rfl rfl rfl) rfl rfl hl.1 rfl (lv_room (Nat.le_of_ble_eq_true rfl)) dX6_keep_1 ⟨Nat.zero_le _, Nat.zero_le _⟩) hP hD hS [0, 1, 2, 3, 4, 5, 6, 7] rfl (fun _ => rfl) (by decide) (fun _ => rfl) (fun u1 H locs hw1 hP hD hS => ?_)
  refine lv_iconst (v := nI 0) hx hb dX6_keep_4 (by decide) ?_
  refine lv_istore_n hx hb dX6_keep_5 rfl hl (by decide) rfl (fun ls hl => ?_)
  have hl : lv_has ls 2 [(1, .int (nI 0)), (0, .ref m)] := hl
  refine sw_loop (I := fun kM ls H locs => ∃ (i : Nat) (f : Nat → Int32), kM = 80 - i ∧ lv_has ls 2 [(1, .int (nI i)), (0, .ref m)] ∧ va_P D vwCl [(m, .inr (6, [.int (nI ord), .ref me, .int (nI ns), .ref ml, .ref mw, .int (nI u1.1.1), .ref wa, .ref wb, .ref wf, .long u1.2.1, .long u1.2.2, .ref li])), (me, .inl (cI, 4, .inl ge)), (ml, .inl (cI, 9, .inl gL)), (mw, .inl (cI, 72, .inl gW)), (wa, .inl (cI, 72, .inl u1.1.2.1)), (wb, .inl (cI, 72, .inl u1.1.2.2.1)), (wf, .inl (cI, 72, .inl u1.1.2.2.2)), (li, .inl (cI, 240, .inl f))] H ∧ va_D A [(m, .inr (6, [.int (nI ord), .ref me, .int (nI ns), .ref ml, .ref mw, .int (nI u1.1.1), .ref wa, .ref wb, .ref wf, .long u1.2.1, .long u1.2.2, .ref li])), (me, .inl (cI, 4, .inl ge)), (ml, .inl (cI, 9, .inl gL)), (mw, .inl (cI, 72, .inl gW)), (wa, .inl (cI, 72, .inl u1.1.2.1)), (wb, .inl (cI, 72, .inl u1.1.2.2.1)), (wf, .inl (cI, 72, .inl u1.1.2.2.2)), (li, .inl (cI, 240, .inl f))] ∧ va_S A sZ.heap H locs ∧ (i ≤ 80) ∧ (∀ j, f j = if 80 ≤ j ∧ j < 80 + i then (lmS (lmS lim 0 (sgPr (fun a b w => sgO (rwS ln wd ns) ord e a b w) (fun j => sgSy ln wd ns j) (ln ns + 1))) 40 (sgPr (fun a b w => sgU (rwS ln wd ns) ord e a b w) (fun j => sgSy ln wd ns j) (ln ns + 1))) (j - 80) else (lmS (lmS lim 0 (sgPr (fun a b w => sgO (rwS ln wd ns) ord e a b w) (fun j => sgSy ln wd ns j) (ln ns + 1))) 40 (sgPr (fun a b w => sgU (rwS ln wd ns) ord e a b w) (fun j => sgSy ln wd ns j) (ln ns + 1))) j)) ?_ _ ⟨0, lmS (lmS lim 0 (sgPr (fun a b w => sgO (rwS ln wd ns) ord e a b w) (fun j => sgSy ln wd ns j) (ln ns + 1))) 40 (sgPr (fun a b w => sgU (rwS ln wd ns) ord e a b w) (fun j => sgSy ln wd ns j) (ln ns + 1)), rfl, hl, hP, hD, hS, by omega, fun j => by rw [if_neg (by omega)]⟩
  intro kM ls H locs hI ih6
  obtain ⟨i, f, hkM, hl, hP, hD, hS, hi, hf⟩ := hI
  refine lv_iload_n hx hb dX6_keep_6 rfl (lv_at hl 0 rfl) ?_
  refine lv_bipush (v := nI 80) hx hb dX6_keep_7 (by decide) ?_
  refine ci_icmp_ge (X := ((i : Nat) : Int)) (Y := ((80 : Nat) : Int)) (tgt := 33) hx hb (sg_n (by omega)) (sg_n (by omega)) dX6_keep_9 rfl (fun h9 => ?_) (fun h9 => ?_)
  · have hP := sg_arr (g := lmS (lmS (lmS (lmS lim 0 (sgPr (fun a b w => sgO (rwS ln wd ns) ord e a b w) (fun j => sgSy ln wd ns j) (ln ns + 1))) 40 (sgPr (fun a b w => sgU (rwS ln wd ns) ord e a b w) (fun j => sgSy ln wd ns j) (ln ns + 1))) 80 (sgPr (fun a b w => sgO (rwS ln wd ns) ord e a b w) (fun j => sgSy ln wd ns j) (ln ns + 1))) 120 (sgPr (fun a b w => sgU (rwS ln wd ns) ord e a b w) (fun j => sgSy ln wd ns j) (ln ns + 1))) 7 hP rfl (fun j _ => lmS_keep (by rw [show i = 80 by omega] at hf; exact hf) j)
    have hD := sgD_adr (ws := [(m, .inr (6, [.int (nI ord), .ref me, .int (nI ns), .ref ml, .ref mw, .int (nI u1.1.1), .ref wa, .ref wb, .ref wf, .long u1.2.1, .long u1.2.2, .ref li])), (me, .inl (cI, 4, .inl ge)), (ml, .inl (cI, 9, .inl gL)), (mw, .inl (cI, 72, .inl gW)), (wa, .inl (cI, 72, .inl u1.1.2.1)), (wb, .inl (cI, 72, .inl u1.1.2.2.1)), (wf, .inl (cI, 72, .inl u1.1.2.2.2)), (li, .inl (cI, 240, .inl f))]) (ws' := [(m, .inr (6, [.int (nI ord), .ref me, .int (nI ns), .ref ml, .ref mw, .int (nI u1.1.1), .ref wa, .ref wb, .ref wf, .long u1.2.1, .long u1.2.2, .ref li])), (me, .inl (cI, 4, .inl ge)), (ml, .inl (cI, 9, .inl gL)), (mw, .inl (cI, 72, .inl gW)), (wa, .inl (cI, 72, .inl u1.1.2.1)), (wb, .inl (cI, 72, .inl u1.1.2.2.1)), (wf, .inl (cI, 72, .inl u1.1.2.2.2)), (li, .inl (cI, 240, .inl (lmS (lmS (lmS (lmS lim 0 (sgPr (fun a b w => sgO (rwS ln wd ns) ord e a b w) (fun j => sgSy ln wd ns j) (ln ns + 1))) 40 (sgPr (fun a b w => sgU (rwS ln wd ns) ord e a b w) (fun j => sgSy ln wd ns j) (ln ns + 1))) 80 (sgPr (fun a b w => sgO (rwS ln wd ns) ord e a b w) (fun j => sgSy ln wd ns j) (ln ns + 1))) 120 (sgPr (fun a b w => sgU (rwS ln wd ns) ord e a b w) (fun j => sgSy ln wd ns j) (ln ns + 1)))))]) rfl hD
    have hP : va_P D vwCl [(m, .inr (6, [.int (nI ord), .ref me, .int (nI ns), .ref ml, .ref mw, .int (nI u1.1.1), .ref wa, .ref wb, .ref wf, .long u1.2.1, .long u1.2.2, .ref li])), (me, .inl (cI, 4, .inl ge)), (ml, .inl (cI, 9, .inl gL)), (mw, .inl (cI, 72, .inl gW)), (wa, .inl (cI, 72, .inl u1.1.2.1)), (wb, .inl (cI, 72, .inl u1.1.2.2.1)), (wf, .inl (cI, 72, .inl u1.1.2.2.2)), (li, .inl (cI, 240, .inl (lmS (lmS (lmS (lmS lim 0 (sgPr (fun a b w => sgO (rwS ln wd ns) ord e a b w) (fun j => sgSy ln wd ns j) (ln ns + 1))) 40 (sgPr (fun a b w => sgU (rwS ln wd ns) ord e a b w) (fun j => sgSy ln wd ns j) (ln ns + 1))) 80 (sgPr (fun a b w => sgO (rwS ln wd ns) ord e a b w) (fun j => sgSy ln wd ns j) (ln ns + 1))) 120 (sgPr (fun a b w => sgU (rwS ln wd ns) ord e a b w) (fun j => sgSy ln wd ns j) (ln ns + 1)))))] H := hP
    have hD : va_D A [(m, .inr (6, [.int (nI ord), .ref me, .int (nI ns), .ref ml, .ref mw, .int (nI u1.1.1), .ref wa, .ref wb, .ref wf, .long u1.2.1, .long u1.2.2, .ref li])), (me, .inl (cI, 4, .inl ge)), (ml, .inl (cI, 9, .inl gL)), (mw, .inl (cI, 72, .inl gW)), (wa, .inl (cI, 72, .inl u1.1.2.1)), (wb, .inl (cI, 72, .inl u1.1.2.2.1)), (wf, .inl (cI, 72, .inl u1.1.2.2.2)), (li, .inl (cI, 240, .inl (lmS (lmS (lmS (lmS lim 0 (sgPr (fun a b w => sgO (rwS ln wd ns) ord e a b w) (fun j => sgSy ln wd ns j) (ln ns + 1))) 40 (sgPr (fun a b w => sgU (rwS ln wd ns) ord e a b w) (fun j => sgSy ln wd ns j) (ln ns + 1))) 80 (sgPr (fun a b w => sgO (rwS ln wd ns) ord e a b w) (fun j => sgSy ln wd ns j) (ln ns + 1))) 120 (sgPr (fun a b w => sgU (rwS ln wd ns) ord e a b w) (fun j => sgSy ln wd ns j) (ln ns + 1)))))] := hD
    exact W.vret hx hb hr (fun tZ ht hW => ⟨⟨u1, rfl, trivial, by show va_P D vwCl _ tZ.heap; rw [ht]; exact hP⟩, hS.F ht⟩) hS.2.2 dX6_keep_33
  · refine lv_aload_n hx hb dX6_keep_12 rfl (lv_at hl 1 rfl) ?_
    refine va_get (D := D) (ci := 6) (v := .ref li) (C := RX6) (T := TX6) (N := 12) hx hb hts hinX6 hown hK.1 hP 0 rfl rfl 11 (by decide) (hts _ fl_X6_32) (fun _ h9 => h9) rfl dX6_keep_13 ?_
    refine lv_bipush (v := nI 80) hx hb dX6_keep_16 (by decide) ?_
    refine lv_iload_n hx hb dX6_keep_18 rfl (lv_at hl 0 rfl) ?_
    refine n_iadd hx hb dX6_keep_19 ?_
    refine lv_aload_n hx hb dX6_keep_20 rfl (lv_at hl 1 rfl) ?_
    refine va_get (D := D) (ci := 6) (v := .ref li) (C := RX6) (T := TX6) (N := 12) hx hb hts hinX6 hown hK.1 hP 0 rfl rfl 11 (by decide) (hts _ fl_X6_32) (fun _ h9 => h9) rfl dX6_keep_21 ?_
    refine lv_iload_n hx hb dX6_keep_24 rfl (lv_at hl 0 rfl) ?_
    refine n_iald (v := (lmS (lmS lim 0 (sgPr (fun a b w => sgO (rwS ln wd ns) ord e a b w) (fun j => sgSy ln wd ns j) (ln ns + 1))) 40 (sgPr (fun a b w => sgU (rwS ln wd ns) ord e a b w) (fun j => sgSy ln wd ns j) (ln ns + 1))) i) hx hb hK.1 hP 7 0 rfl rfl (by omega) (by omega) (by rw [hf i, if_neg (by omega)]) dX6_keep_25 ?_
    refine n_iast hx hb hK.1 hP hD hS 7 0 rfl rfl (by omega) (by omega) dX6_keep_26 (fun H locs hP hD hS => ?_)
    have hP : va_P D vwCl [(m, .inr (6, [.int (nI ord), .ref me, .int (nI ns), .ref ml, .ref mw, .int (nI u1.1.1), .ref wa, .ref wb, .ref wf, .long u1.2.1, .long u1.2.2, .ref li])), (me, .inl (cI, 4, .inl ge)), (ml, .inl (cI, 9, .inl gL)), (mw, .inl (cI, 72, .inl gW)), (wa, .inl (cI, 72, .inl u1.1.2.1)), (wb, .inl (cI, 72, .inl u1.1.2.2.1)), (wf, .inl (cI, 72, .inl u1.1.2.2.2)), (li, .inl (cI, 240, .inl (upd f (80 + i) ((lmS (lmS lim 0 (sgPr (fun a b w => sgO (rwS ln wd ns) ord e a b w) (fun j => sgSy ln wd ns j) (ln ns + 1))) 40 (sgPr (fun a b w => sgU (rwS ln wd ns) ord e a b w) (fun j => sgSy ln wd ns j) (ln ns + 1))) i))))] H := hP
    have hD : va_D A [(m, .inr (6, [.int (nI ord), .ref me, .int (nI ns), .ref ml, .ref mw, .int (nI u1.1.1), .ref wa, .ref wb, .ref wf, .long u1.2.1, .long u1.2.2, .ref li])), (me, .inl (cI, 4, .inl ge)), (ml, .inl (cI, 9, .inl gL)), (mw, .inl (cI, 72, .inl gW)), (wa, .inl (cI, 72, .inl u1.1.2.1)), (wb, .inl (cI, 72, .inl u1.1.2.2.1)), (wf, .inl (cI, 72, .inl u1.1.2.2.2)), (li, .inl (cI, 240, .inl (upd f (80 + i) ((lmS (lmS lim 0 (sgPr (fun a b w => sgO (rwS ln wd ns) ord e a b w) (fun j => sgSy ln wd ns j) (ln ns + 1))) 40 (sgPr (fun a b w => sgU (rwS ln wd ns) ord e a b w) (fun j => sgSy ln wd ns j) (ln ns + 1))) i))))] := hD
    refine lv_iinc (v := nI (i + 1)) hx hb dX6_keep_27 hl (k := 0) rfl (sg_inc _) (by decide) rfl (fun ls hl => ?_)
    have hl : lv_has ls 2 [(1, .int (nI (i + 1))), (0, .ref m)] := hl
    refine lv_goto (tgt := 6) hx hb dX6_keep_30 rfl ?_
    exact ih6 _ _ _ _ ⟨i + 1, upd f (80 + i) ((lmS (lmS lim 0 (sgPr (fun a b w => sgO (rwS ln wd ns) ord e a b w) (fun j => sgSy ln wd ns j) (ln ns + 1))) 40 (sgPr (fun a b w => sgU (rwS ln wd ns) ord e a b w) (fun j => sgSy ln wd ns j) (ln ns + 1))) i), rfl, lv_sub hl [0, 1] rfl, hP, hD, hS, by omega, sg_kf (L := lmS (lmS lim 0 (sgPr (fun a b w => sgO (rwS ln wd ns) ord e a b w) (fun j => sgSy ln wd ns j) (ln ns + 1))) 40 (sgPr (fun a b w => sgU (rwS ln wd ns) ord e a b w) (fun j => sgSy ln wd ns j) (ln ns + 1))) (by omega) hf⟩ (by omega)
set_option maxHeartbeats 4000000 in
set_option maxRecDepth 100000 in
theorem c_X6_against (l : Launch) (D : va_G) (cI cO : ClassId) (m : Nat) (me : Nat) (ml : Nat) (mw : Nat) (wa : Nat) (wb : Nat) (wf : Nat) (li : Nat) (ord : Nat) (ns : Nat) (ev : Int32) (y0 : Int64) (y1 : Int64) (ge : Nat → Int32) (gL : Nat → Int32) (gW : Nat → Int32) (ga : Nat → Int32) (gb : Nat → Int32) (gf : Nat → Int32) (lim : Nat → Int32) (ln : Nat → Nat) (wd : Nat → Nat → Nat) (e : Nat → Nat) (KO : Nat) (KU : Nat) (hns : ns ≤ 8) (hMm : sgMm ln wd ns gL gW) (ho : 1 ≤ ord ∧ ord ≤ 3) (hE : sgE e) (hge : ∀ k, 1 ≤ k → k ≤ 3 → ge k = nI (e k)) (hKO : KO < 4294967296 ^ 9) (hKU : KU < 4294967296 ^ 9) (hlO : sgLim lim 80 KO) (hlU : sgLim lim 120 KU) : Met l yX6_against (.code yX6_against cX6_against 2 (some .int) :: sgT) ({ frames := 5, cells := 0, slots := 0, locals := 129 }) (sgWc D cI cO [.ref m] [(m, .inr (6, [.int (nI ord), .ref me, .int (nI ns), .ref ml, .ref mw, .int ev, .ref wa, .ref wb, .ref wf, .long y0, .long y1, .ref li])), (me, .inl (cI, 4, .inl ge)), (ml, .inl (cI, 9, .inl gL)), (mw, .inl (cI, 72, .inl gW)), (wa, .inl (cI, 72, .inl ga)), (wb, .inl (cI, 72, .inl gb)), (wf, .inl (cI, 72, .inl gf)), (li, .inl (cI, 240, .inl lim))]) (va_Qi (fun (r : Int32) (uZ : (Nat × (Nat → Int32) × (Nat → Int32) × (Nat → Int32)) × Int64 × Int64) => r = cmpN ((sgPr (fun a b w => sgO (rwS ln wd ns) ord e a b w) (fun j => sgSy ln wd ns j) (ln ns + 1)) * KU) (KO * (sgPr (fun a b w => sgU (rwS ln wd ns) ord e a b w) (fun j => sgSy ln wd ns j) (ln ns + 1)))) (fun uZ t => va_P D vwCl [(m, .inr (6, [.int (nI ord), .ref me, .int (nI ns), .ref ml, .ref mw, .int (nI uZ.1.1), .ref wa, .ref wb, .ref wf, .long uZ.2.1, .long uZ.2.2, .ref li])), (me, .inl (cI, 4, .inl ge)), (ml, .inl (cI, 9, .inl gL)), (mw, .inl (cI, 72, .inl gW)), (wa, .inl (cI, 72, .inl uZ.1.2.1)), (wb, .inl (cI, 72, .inl uZ.1.2.2.1)), (wf, .inl (cI, 72, .inl uZ.1.2.2.2)), (li, .inl (cI, 240, .inl (lmS (lmS (lmS (lmS lim 0 (sgPr (fun a b w => sgO (rwS ln wd ns) ord e a b w) (fun j => sgSy ln wd ns j) (ln ns + 1))) 40 (sgPr (fun a b w => sgU (rwS ln wd ns) ord e a b w) (fun j => sgSy ln wd ns j) (ln ns + 1))) 160 ((sgPr (fun a b w => sgO (rwS ln wd ns) ord e a b w) (fun j => sgSy ln wd ns j) (ln ns + 1)) * KU)) 200 (KO * (sgPr (fun a b w => sgU (rwS ln wd ns) ord e a b w) (fun j => sgSy ln wd ns j) (ln ns + 1))))))] t.heap) (xA [(m, .inr (6, [.int (nI ord), .ref me, .int (nI ns), .ref ml, .ref mw, .int ev, .ref wa, .ref wb, .ref wf, .long y0, .long y1, .ref li])), (me, .inl (cI, 4, .inl ge)), (ml, .inl (cI, 9, .inl gL)), (mw, .inl (cI, 72, .inl gW)), (wa, .inl (cI, 72, .inl ga)), (wb, .inl (cI, 72, .inl gb)), (wf, .inl (cI, 72, .inl gf)), (li, .inl (cI, 240, .inl lim))])) 0 0 (xA [(m, .inr (6, [.int (nI ord), .ref me, .int (nI ns), .ref ml, .ref mw, .int ev, .ref wa, .ref wb, .ref wf, .long y0, .long y1, .ref li])), (me, .inl (cI, 4, .inl ge)), (ml, .inl (cI, 9, .inl gL)), (mw, .inl (cI, 72, .inl gW)), (wa, .inl (cI, 72, .inl ga)), (wb, .inl (cI, 72, .inl gb)), (wf, .inl (cI, 72, .inl gf)), (li, .inl (cI, 240, .inl lim))]) := by
  refine Met.ofW (cc := cX6_against) (maxL := 2) (ret := (some .int)) (by decide) rfl ?_
  intro pZ eZ sZ mZ argsZ belowZ methZ cZ s₁ BZ hml hv
  obtain ⟨rfl, hP, hK, hD0⟩ := hv
  have hx := BZ.exec
  have hb := BZ.bytes
  have hr := BZ.returns
  have hts : ∀ wZ ∈ sgT, wZ.before ([.ref m] : List Value).toArray sZ = true := fun wZ h => atoms_spec (ws := (.code yX6_against cX6_against 2 (some .int) :: sgT)) BZ.pre wZ (List.mem_cons_of_mem _ h)
  have hown : sZ.vm.findClass RX6 = some mZ.cls := findClass_of_methodNamed BZ.named
  have hlocks := BZ.notSynchronized
  have hD : va_D (xA [(m, .inr (6, [.int (nI ord), .ref me, .int (nI ns), .ref ml, .ref mw, .int ev, .ref wa, .ref wb, .ref wf, .long y0, .long y1, .ref li])), (me, .inl (cI, 4, .inl ge)), (ml, .inl (cI, 9, .inl gL)), (mw, .inl (cI, 72, .inl gW)), (wa, .inl (cI, 72, .inl ga)), (wb, .inl (cI, 72, .inl gb)), (wf, .inl (cI, 72, .inl gf)), (li, .inl (cI, 240, .inl lim))]) [(m, .inr (6, [.int (nI ord), .ref me, .int (nI ns), .ref ml, .ref mw, .int ev, .ref wa, .ref wb, .ref wf, .long y0, .long y1, .ref li])), (me, .inl (cI, 4, .inl ge)), (ml, .inl (cI, 9, .inl gL)), (mw, .inl (cI, 72, .inl gW)), (wa, .inl (cI, 72, .inl ga)), (wb, .inl (cI, 72, .inl gb)), (wf, .inl (cI, 72, .inl gf)), (li, .inl (cI, 240, .inl lim))] := ⟨hD0.1, fun k q h => ⟨k, q.2, h⟩⟩
  generalize hAe : xA [(m, .inr (6, [.int (nI ord), .ref me, .int (nI ns), .ref ml, .ref mw, .int ev, .ref wa, .ref wb, .ref wf, .long y0, .long y1, .ref li])), (me, .inl (cI, 4, .inl ge)), (ml, .inl (cI, 9, .inl gL)), (mw, .inl (cI, 72, .inl gW)), (wa, .inl (cI, 72, .inl ga)), (wb, .inl (cI, 72, .inl gb)), (wf, .inl (cI, 72, .inl gf)), (li, .inl (cI, 240, .inl lim))] = A at hD ⊢
  have hS : va_S A sZ.heap sZ.heap [] := va_S.rf
  have hl := lv_entry ([.ref m]) (n := 2) (Nat.le_of_ble_eq_true rfl)
  rw [lg_entry_eq]
  generalize (lg_sl ([.ref m]) ++ List.replicate (2 - (lg_sl ([.ref m])).length) Slot.unset).toArray = ls at hl ⊢
  have hl : lv_has ls 2 [(0, .ref m)] := hl
  have hB := rwS_bd hns hMm
  have hm8 := hMm ns (Nat.le_refl _)
  have hsc := sgSc_lt hB ho.2 hE (fun j => sgSy ln wd ns j) (n := ln ns + 1) (by omega)
  have hP : va_P D vwCl [(m, .inr (6, [.int (nI ord), .ref me, .int (nI ns), .ref ml, .ref mw, .int ev, .ref wa, .ref wb, .ref wf, .long y0, .long y1, .ref li])), (me, .inl (cI, 4, .inl ge)), (ml, .inl (cI, 9, .inl gL)), (mw, .inl (cI, 72, .inl gW)), (wa, .inl (cI, 72, .inl ga)), (wb, .inl (cI, 72, .inl gb)), (wf, .inl (cI, 72, .inl gf)), (li, .inl (cI, 240, .inl lim))] sZ.heap := hP
  refine lv_aload_n hx hb dX6_against_0 rfl (lv_at hl 0 rfl) ?_
  refine sg_callWv (fun u1 => [(m, .inr (6, [.int (nI ord), .ref me, .int (nI ns), .ref ml, .ref mw, .int (nI u1.1.1), .ref wa, .ref wb, .ref wf, .long u1.2.1, .long u1.2.2, .ref li])), (me, .inl (cI, 4, .inl ge)), (ml, .inl (cI, 9, .inl gL)), (mw, .inl (cI, 72, .inl gW)), (wa, .inl (cI, 72, .inl u1.1.2.1)), (wb, .inl (cI, 72, .inl u1.1.2.2.1)), (wf, .inl (cI, 72, .inl u1.1.2.2.2)), (li, .inl (cI, 240, .inl (lmS (lmS lim 0 (sgPr (fun a b w => sgO (rwS ln wd ns) ord e a b w) (fun j => sgSy ln wd ns j) (ln ns + 1))) 40 (sgPr (fun a b w => sgU (rwS ln wd ns) ord e a b w) (fun j => sgSy ln wd ns j) (ln ns + 1)))))]) [(true, 0), (true, 1), (true, 2), (true, 3), (true, 4), (true, 5), (true, 6), (true, 7)] (va_runV (As := []) (rest := []) (C := RX6) ⟨hx, hb, hml, hown, hts⟩ (c_X6_findScore l D cI cO m me ml mw wa wb wf li ord ns ev y0 y1 ge gL gW ga gb gf lim ln wd e (by omega) hMm (by omega) hE hge) ⟨(sg_cB 0 hts mcX6_findScore ml_X6_106 in_X6 rfl rfl (by decide +kernel) ⟨Nat.le_of_ble_eq_true rfl, Nat.le_of_ble_eq_true rfl⟩), hts _ im_X6_findScore, hts _ se_X6_findScore⟩ (sg_wV (q0 := 0) hK hP hD [0, 1, 2, 3, 4, 5, 6, 7] (by decide) rfl rfl rfl rfl) rfl rfl hl.1 rfl (lv_room (Nat.le_of_ble_eq_true rfl)) dX6_against_1 ⟨Nat.zero_le _, Nat.zero_le _⟩) hP hD hS [0, 1, 2, 3, 4, 5, 6, 7] rfl (fun _ => rfl) (by decide) (fun _ => rfl) (fun u1 H locs hw1 hP hD hS => ?_)
  refine lv_aload_n hx hb dX6_against_4 rfl (lv_at hl 0 rfl) ?_
  refine lv_iconst (v := nI 0) hx hb dX6_against_5 (by decide) ?_
  refine lv_bipush (v := nI 120) hx hb dX6_against_6 (by decide) ?_
  refine lv_sipush (v := nI 160) hx hb dX6_against_8 (by decide) ?_
  refine sg_callWv (fun _ => [(m, .inr (6, [.int (nI ord), .ref me, .int (nI ns), .ref ml, .ref mw, .int (nI u1.1.1), .ref wa, .ref wb, .ref wf, .long u1.2.1, .long u1.2.2, .ref li])), (me, .inl (cI, 4, .inl ge)), (ml, .inl (cI, 9, .inl gL)), (mw, .inl (cI, 72, .inl gW)), (wa, .inl (cI, 72, .inl u1.1.2.1)), (wb, .inl (cI, 72, .inl u1.1.2.2.1)), (wf, .inl (cI, 72, .inl u1.1.2.2.2)), (li, .inl (cI, 240, .inl (lmS (lmS (lmS lim 0 (sgPr (fun a b w => sgO (rwS ln wd ns) ord e a b w) (fun j => sgSy ln wd ns j) (ln ns + 1))) 40 (sgPr (fun a b w => sgU (rwS ln wd ns) ord e a b w) (fun j => sgSy ln wd ns j) (ln ns + 1))) 160 ((sgPr (fun a b w => sgO (rwS ln wd ns) ord e a b w) (fun j => sgSy ln wd ns j) (ln ns + 1)) * KU))))]) [(true, 0), (true, 1), (true, 2), (true, 3), (true, 4), (true, 5), (true, 6), (true, 7)] (va_runV (As := [.int (nI 0), .int (nI 120), .int (nI 160)]) (rest := []) (C := RX6) ⟨hx, hb, hml, hown, hts⟩ (c_X6_multiply l D cI cO m me ml mw wa wb wf li ord ns (nI u1.1.1) u1.2.1 u1.2.2 ge gL gW u1.1.2.1 u1.1.2.2.1 u1.1.2.2.2 (lmS (lmS lim 0 (sgPr (fun a b w => sgO (rwS ln wd ns) ord e a b w) (fun j => sgSy ln wd ns j) (ln ns + 1))) 40 (sgPr (fun a b w => sgU (rwS ln wd ns) ord e a b w) (fun j => sgSy ln wd ns j) (ln ns + 1))) 0 120 160 (sgPr (fun a b w => sgO (rwS ln wd ns) ord e a b w) (fun j => sgSy ln wd ns j) (ln ns + 1)) KU (by omega) (by omega) (by omega) (by omega) (by omega) (sgLim_o sgLim_S (by omega)) (sgLim_o (sgLim_o hlU (by omega)) (by omega)) (sg_pw hsc.1)) ⟨(sg_cB 3 hts mcX6_multiply ml_X6_109 in_X6 rfl rfl (by decide +kernel) ⟨Nat.le_of_ble_eq_true rfl, Nat.le_of_ble_eq_true rfl⟩), hts _ im_X6_multiply, hts _ se_X6_multiply⟩ (sg_wV (q0 := 0) hK hP hD [0, 1, 2, 3, 4, 5, 6, 7] (by decide) rfl rfl rfl rfl) rfl rfl hl.1 rfl (lv_room (Nat.le_of_ble_eq_true rfl)) dX6_against_11 ⟨Nat.zero_le _, Nat.zero_le _⟩) hP hD hS [0, 1, 2, 3, 4, 5, 6, 7] rfl (fun _ => rfl) (by decide) (fun _ => rfl) (fun u11 H locs hw11 hP hD hS => ?_)
  refine lv_aload_n hx hb dX6_against_14 rfl (lv_at hl 0 rfl) ?_
  refine lv_bipush (v := nI 80) hx hb dX6_against_15 (by decide) ?_
  refine lv_bipush (v := nI 40) hx hb dX6_against_17 (by decide) ?_
  refine lv_sipush (v := nI 200) hx hb dX6_against_19 (by decide) ?_
  refine sg_callWv (fun _ => [(m, .inr (6, [.int (nI ord), .ref me, .int (nI ns), .ref ml, .ref mw, .int (nI u1.1.1), .ref wa, .ref wb, .ref wf, .long u1.2.1, .long u1.2.2, .ref li])), (me, .inl (cI, 4, .inl ge)), (ml, .inl (cI, 9, .inl gL)), (mw, .inl (cI, 72, .inl gW)), (wa, .inl (cI, 72, .inl u1.1.2.1)), (wb, .inl (cI, 72, .inl u1.1.2.2.1)), (wf, .inl (cI, 72, .inl u1.1.2.2.2)), (li, .inl (cI, 240, .inl (lmS (lmS (lmS (lmS lim 0 (sgPr (fun a b w => sgO (rwS ln wd ns) ord e a b w) (fun j => sgSy ln wd ns j) (ln ns + 1))) 40 (sgPr (fun a b w => sgU (rwS ln wd ns) ord e a b w) (fun j => sgSy ln wd ns j) (ln ns + 1))) 160 ((sgPr (fun a b w => sgO (rwS ln wd ns) ord e a b w) (fun j => sgSy ln wd ns j) (ln ns + 1)) * KU)) 200 (KO * (sgPr (fun a b w => sgU (rwS ln wd ns) ord e a b w) (fun j => sgSy ln wd ns j) (ln ns + 1))))))]) [(true, 0), (true, 1), (true, 2), (true, 3), (true, 4), (true, 5), (true, 6), (true, 7)] (va_runV (As := [.int (nI 80), .int (nI 40), .int (nI 200)]) (rest := []) (C := RX6) ⟨hx, hb, hml, hown, hts⟩ (c_X6_multiply l D cI cO m me ml mw wa wb wf li ord ns (nI u1.1.1) u1.2.1 u1.2.2 ge gL gW u1.1.2.1 u1.1.2.2.1 u1.1.2.2.2 (lmS (lmS (lmS lim 0 (sgPr (fun a b w => sgO (rwS ln wd ns) ord e a b w) (fun j => sgSy ln wd ns j) (ln ns + 1))) 40 (sgPr (fun a b w => sgU (rwS ln wd ns) ord e a b w) (fun j => sgSy ln wd ns j) (ln ns + 1))) 160 ((sgPr (fun a b w => sgO (rwS ln wd ns) ord e a b w) (fun j => sgSy ln wd ns j) (ln ns + 1)) * KU)) 80 40 200 KO (sgPr (fun a b w => sgU (rwS ln wd ns) ord e a b w) (fun j => sgSy ln wd ns j) (ln ns + 1)) (by omega) (by omega) (by omega) (by omega) (by omega) (sgLim_o (sgLim_o (sgLim_o hlO (by omega)) (by omega)) (by omega)) (sgLim_o sgLim_S (by omega)) (sg_pw hKO)) ⟨(sg_cB 3 hts mcX6_multiply ml_X6_109 in_X6 rfl rfl (by decide +kernel) ⟨Nat.le_of_ble_eq_true rfl, Nat.le_of_ble_eq_true rfl⟩), hts _ im_X6_multiply, hts _ se_X6_multiply⟩ (sg_wV (q0 := 0) hK hP hD [0, 1, 2, 3, 4, 5, 6, 7] (by decide) rfl rfl rfl rfl) rfl rfl hl.1 rfl (lv_room (Nat.le_of_ble_eq_true rfl)) dX6_against_22 ⟨Nat.zero_le _, Nat.zero_le _⟩) hP hD hS [0, 1, 2, 3, 4, 5, 6, 7] rfl (fun _ => rfl) (by decide) (fun _ => rfl) (fun u22 H locs hw22 hP hD hS => ?_)
  refine lv_bipush (v := nI 39) hx hb dX6_against_25 (by decide) ?_
  refine sw_i (y := nI 40 - nI 1) (by decide) ?_
  refine lv_istore_n hx hb dX6_against_27 rfl hl (by decide) rfl (fun ls hl => ?_)
  have hl : lv_has ls 2 [(1, .int (nI 40 - nI 1)), (0, .ref m)] := hl
  refine sw_loop (I := fun kM ls H locs => ∃ (t : Nat), kM = t ∧ lv_has ls 2 [(1, .int (nI t - nI 1)), (0, .ref m)] ∧ va_P D vwCl [(m, .inr (6, [.int (nI ord), .ref me, .int (nI ns), .ref ml, .ref mw, .int (nI u1.1.1), .ref wa, .ref wb, .ref wf, .long u1.2.1, .long u1.2.2, .ref li])), (me, .inl (cI, 4, .inl ge)), (ml, .inl (cI, 9, .inl gL)), (mw, .inl (cI, 72, .inl gW)), (wa, .inl (cI, 72, .inl u1.1.2.1)), (wb, .inl (cI, 72, .inl u1.1.2.2.1)), (wf, .inl (cI, 72, .inl u1.1.2.2.2)), (li, .inl (cI, 240, .inl (lmS (lmS (lmS (lmS lim 0 (sgPr (fun a b w => sgO (rwS ln wd ns) ord e a b w) (fun j => sgSy ln wd ns j) (ln ns + 1))) 40 (sgPr (fun a b w => sgU (rwS ln wd ns) ord e a b w) (fun j => sgSy ln wd ns j) (ln ns + 1))) 160 ((sgPr (fun a b w => sgO (rwS ln wd ns) ord e a b w) (fun j => sgSy ln wd ns j) (ln ns + 1)) * KU)) 200 (KO * (sgPr (fun a b w => sgU (rwS ln wd ns) ord e a b w) (fun j => sgSy ln wd ns j) (ln ns + 1))))))] H ∧ va_D A [(m, .inr (6, [.int (nI ord), .ref me, .int (nI ns), .ref ml, .ref mw, .int (nI u1.1.1), .ref wa, .ref wb, .ref wf, .long u1.2.1, .long u1.2.2, .ref li])), (me, .inl (cI, 4, .inl ge)), (ml, .inl (cI, 9, .inl gL)), (mw, .inl (cI, 72, .inl gW)), (wa, .inl (cI, 72, .inl u1.1.2.1)), (wb, .inl (cI, 72, .inl u1.1.2.2.1)), (wf, .inl (cI, 72, .inl u1.1.2.2.2)), (li, .inl (cI, 240, .inl (lmS (lmS (lmS (lmS lim 0 (sgPr (fun a b w => sgO (rwS ln wd ns) ord e a b w) (fun j => sgSy ln wd ns j) (ln ns + 1))) 40 (sgPr (fun a b w => sgU (rwS ln wd ns) ord e a b w) (fun j => sgSy ln wd ns j) (ln ns + 1))) 160 ((sgPr (fun a b w => sgO (rwS ln wd ns) ord e a b w) (fun j => sgSy ln wd ns j) (ln ns + 1)) * KU)) 200 (KO * (sgPr (fun a b w => sgU (rwS ln wd ns) ord e a b w) (fun j => sgSy ln wd ns j) (ln ns + 1))))))] ∧ va_S A sZ.heap H locs ∧ (t ≤ 40) ∧ (((sgPr (fun a b w => sgO (rwS ln wd ns) ord e a b w) (fun j => sgSy ln wd ns j) (ln ns + 1)) * KU) / 65536 ^ t = (KO * (sgPr (fun a b w => sgU (rwS ln wd ns) ord e a b w) (fun j => sgSy ln wd ns j) (ln ns + 1))) / 65536 ^ t)) ?_ _ ⟨40, rfl, hl, hP, hD, hS, by omega, dg_top (sg_pw2 hsc.1 hKU) (sg_pw2 hKO hsc.2)⟩
  intro kM ls H locs hI ih28
  obtain ⟨t, hkM, hl, hP, hD, hS, hi, hq⟩ := hI
  refine lv_iload_n hx hb dX6_against_28 rfl (lv_at hl 0 rfl) ?_
  refine ci_if_lt (X := ((t : Int) - 1)) (tgt := 62) hx hb (pk_sub_toInt (a := t) (b := 1) (by omega) (by omega)) dX6_against_29 rfl (fun h29 => ?_) (fun h29 => ?_)
  · refine lv_iload_n hx hb dX6_against_62 rfl (lv_at hl 0 rfl) ?_
    refine ci_if_ge (X := ((t : Int) - 1)) (tgt := 70) hx hb (pk_sub_toInt (a := t) (b := 1) (by omega) (by omega)) dX6_against_63 rfl (fun h63 => ?_) (fun h63 => ?_)
    · refine lv_aload_n hx hb dX6_against_70 rfl (lv_at hl 1 rfl) ?_
      refine va_get (D := D) (ci := 6) (v := .ref li) (C := RX6) (T := TX6) (N := 12) hx hb hts hinX6 hown hK.1 hP 0 rfl rfl 11 (by decide) (hts _ fl_X6_32) (fun _ h9 => h9) rfl dX6_against_71 ?_
      refine lv_sipush (v := nI 160) hx hb dX6_against_74 (by decide) ?_
      refine lv_iload_n hx hb dX6_against_77 rfl (lv_at hl 0 rfl) ?_
      refine sw_i (y := nI (t - 1)) (pk_sub (by omega)) ?_
      refine n_iadd hx hb dX6_against_78 ?_
      refine n_iald (v := nI (dg 65536 (t - 1) ((sgPr (fun a b w => sgO (rwS ln wd ns) ord e a b w) (fun j => sgSy ln wd ns j) (ln ns + 1)) * KU))) hx hb hK.1 hP 7 0 rfl rfl (by omega) (by omega) (by rw [lmS_out (q := 200) (by omega)]; exact lmS_in (by omega)) dX6_against_79 ?_
      refine lv_aload_n hx hb dX6_against_80 rfl (lv_at hl 1 rfl) ?_
      refine va_get (D := D) (ci := 6) (v := .ref li) (C := RX6) (T := TX6) (N := 12) hx hb hts hinX6 hown hK.1 hP 0 rfl rfl 11 (by decide) (hts _ fl_X6_32) (fun _ h9 => h9) rfl dX6_against_81 ?_
      refine lv_sipush (v := nI 200) hx hb dX6_against_84 (by decide) ?_
      refine lv_iload_n hx hb dX6_against_87 rfl (lv_at hl 0 rfl) ?_
      refine sw_i (y := nI (t - 1)) (pk_sub (by omega)) ?_
      refine n_iadd hx hb dX6_against_88 ?_
      refine n_iald (v := nI (dg 65536 (t - 1) (KO * (sgPr (fun a b w => sgU (rwS ln wd ns) ord e a b w) (fun j => sgSy ln wd ns j) (ln ns + 1))))) hx hb hK.1 hP 7 0 rfl rfl (by omega) (by omega) (lmS_in (by omega)) dX6_against_89 ?_
      refine ci_icmp_ge (X := ((dg 65536 (t - 1) ((sgPr (fun a b w => sgO (rwS ln wd ns) ord e a b w) (fun j => sgSy ln wd ns j) (ln ns + 1)) * KU) : Nat) : Int)) (Y := ((dg 65536 (t - 1) (KO * (sgPr (fun a b w => sgU (rwS ln wd ns) ord e a b w) (fun j => sgSy ln wd ns j) (ln ns + 1))) : Nat) : Int)) (tgt := 97) hx hb (sg_n (Nat.lt_trans (dg_lt (by decide) _ _) (by decide))) (sg_n (Nat.lt_trans (dg_lt (by decide) _ _) (by decide))) dX6_against_90 rfl (fun h90 => ?_) (fun h90 => ?_)
      · refine lv_iconst (v := nI 1) hx hb dX6_against_97 (by decide) ?_
        exact W.iret hx hb hr (fun tZ ht hW => ⟨⟨_, u1, rfl, (by first | (exfalso; omega) | (have h1 := dg_less (i := t - 1) (X := KO * (sgPr (fun a b w => sgU (rwS ln wd ns) ord e a b w) (fun j => sgSy ln wd ns j) (ln ns + 1))) (Y := (sgPr (fun a b w => sgO (rwS ln wd ns) ord e a b w) (fun j => sgSy ln wd ns j) (ln ns + 1)) * KU) (by rw [Nat.sub_add_cancel (by omega)]; exact hq.symm) (by omega); unfold cmpN; rw [if_neg (by omega), if_neg (by omega)])), by show va_P D vwCl _ tZ.heap; rw [ht]; exact hP⟩, hS.F ht⟩) hS.2.2 dX6_against_98
      · refine lv_iconst (v := -1) hx hb dX6_against_93 (by decide) ?_
        refine lv_goto (tgt := 98) hx hb dX6_against_94 rfl ?_
        exact W.iret hx hb hr (fun tZ ht hW => ⟨⟨_, u1, rfl, (by unfold cmpN; rw [if_pos (dg_less (i := t - 1) (by rw [Nat.sub_add_cancel (by omega)]; exact hq) (by omega))]), by show va_P D vwCl _ tZ.heap; rw [ht]; exact hP⟩, hS.F ht⟩) hS.2.2 dX6_against_98
    · refine lv_iconst (v := nI 0) hx hb dX6_against_66 (by decide) ?_
      refine lv_goto (tgt := 98) hx hb dX6_against_67 rfl ?_
      exact W.iret hx hb hr (fun tZ ht hW => ⟨⟨_, u1, rfl, (by first | (exfalso; omega) | (have h0 : t = 0 := (by omega); rw [h0, Nat.pow_zero, Nat.div_one, Nat.div_one] at hq; unfold cmpN; rw [if_neg (by omega), if_pos hq])), by show va_P D vwCl _ tZ.heap; rw [ht]; exact hP⟩, hS.F ht⟩) hS.2.2 dX6_against_98
  · refine lv_aload_n hx hb dX6_against_32 rfl (lv_at hl 1 rfl) ?_
    refine va_get (D := D) (ci := 6) (v := .ref li) (C := RX6) (T := TX6) (N := 12) hx hb hts hinX6 hown hK.1 hP 0 rfl rfl 11 (by decide) (hts _ fl_X6_32) (fun _ h9 => h9) rfl dX6_against_33 ?_
    refine lv_sipush (v := nI 160) hx hb dX6_against_36 (by decide) ?_
    refine lv_iload_n hx hb dX6_against_39 rfl (lv_at hl 0 rfl) ?_
    refine sw_i (y := nI (t - 1)) (pk_sub (by omega)) ?_
    refine n_iadd hx hb dX6_against_40 ?_
    refine n_iald (v := nI (dg 65536 (t - 1) ((sgPr (fun a b w => sgO (rwS ln wd ns) ord e a b w) (fun j => sgSy ln wd ns j) (ln ns + 1)) * KU))) hx hb hK.1 hP 7 0 rfl rfl (by omega) (by omega) (by rw [lmS_out (q := 200) (by omega)]; exact lmS_in (by omega)) dX6_against_41 ?_
    refine lv_aload_n hx hb dX6_against_42 rfl (lv_at hl 1 rfl) ?_
    refine va_get (D := D) (ci := 6) (v := .ref li) (C := RX6) (T := TX6) (N := 12) hx hb hts hinX6 hown hK.1 hP 0 rfl rfl 11 (by decide) (hts _ fl_X6_32) (fun _ h9 => h9) rfl dX6_against_43 ?_
    refine lv_sipush (v := nI 200) hx hb dX6_against_46 (by decide) ?_
    refine lv_iload_n hx hb dX6_against_49 rfl (lv_at hl 0 rfl) ?_
    refine sw_i (y := nI (t - 1)) (pk_sub (by omega)) ?_
    refine n_iadd hx hb dX6_against_50 ?_
    refine n_iald (v := nI (dg 65536 (t - 1) (KO * (sgPr (fun a b w => sgU (rwS ln wd ns) ord e a b w) (fun j => sgSy ln wd ns j) (ln ns + 1))))) hx hb hK.1 hP 7 0 rfl rfl (by omega) (by omega) (lmS_in (by omega)) dX6_against_51 ?_
    refine ci_icmp_ne (X := ((dg 65536 (t - 1) ((sgPr (fun a b w => sgO (rwS ln wd ns) ord e a b w) (fun j => sgSy ln wd ns j) (ln ns + 1)) * KU) : Nat) : Int)) (Y := ((dg 65536 (t - 1) (KO * (sgPr (fun a b w => sgU (rwS ln wd ns) ord e a b w) (fun j => sgSy ln wd ns j) (ln ns + 1))) : Nat) : Int)) (tgt := 62) hx hb (sg_n (Nat.lt_trans (dg_lt (by decide) _ _) (by decide))) (sg_n (Nat.lt_trans (dg_lt (by decide) _ _) (by decide))) dX6_against_52 rfl (fun h52 => ?_) (fun h52 => ?_)
    · refine lv_iload_n hx hb dX6_against_62 rfl (lv_at hl 0 rfl) ?_
      refine ci_if_ge (X := ((t : Int) - 1)) (tgt := 70) hx hb (pk_sub_toInt (a := t) (b := 1) (by omega) (by omega)) dX6_against_63 rfl (fun h63 => ?_) (fun h63 => ?_)
      · refine lv_aload_n hx hb dX6_against_70 rfl (lv_at hl 1 rfl) ?_
        refine va_get (D := D) (ci := 6) (v := .ref li) (C := RX6) (T := TX6) (N := 12) hx hb hts hinX6 hown hK.1 hP 0 rfl rfl 11 (by decide) (hts _ fl_X6_32) (fun _ h9 => h9) rfl dX6_against_71 ?_
        refine lv_sipush (v := nI 160) hx hb dX6_against_74 (by decide) ?_
        refine lv_iload_n hx hb dX6_against_77 rfl (lv_at hl 0 rfl) ?_
        refine sw_i (y := nI (t - 1)) (pk_sub (by omega)) ?_
        refine n_iadd hx hb dX6_against_78 ?_
        refine n_iald (v := nI (dg 65536 (t - 1) ((sgPr (fun a b w => sgO (rwS ln wd ns) ord e a b w) (fun j => sgSy ln wd ns j) (ln ns + 1)) * KU))) hx hb hK.1 hP 7 0 rfl rfl (by omega) (by omega) (by rw [lmS_out (q := 200) (by omega)]; exact lmS_in (by omega)) dX6_against_79 ?_
        refine lv_aload_n hx hb dX6_against_80 rfl (lv_at hl 1 rfl) ?_
        refine va_get (D := D) (ci := 6) (v := .ref li) (C := RX6) (T := TX6) (N := 12) hx hb hts hinX6 hown hK.1 hP 0 rfl rfl 11 (by decide) (hts _ fl_X6_32) (fun _ h9 => h9) rfl dX6_against_81 ?_
        refine lv_sipush (v := nI 200) hx hb dX6_against_84 (by decide) ?_
        refine lv_iload_n hx hb dX6_against_87 rfl (lv_at hl 0 rfl) ?_
        refine sw_i (y := nI (t - 1)) (pk_sub (by omega)) ?_
        refine n_iadd hx hb dX6_against_88 ?_
        refine n_iald (v := nI (dg 65536 (t - 1) (KO * (sgPr (fun a b w => sgU (rwS ln wd ns) ord e a b w) (fun j => sgSy ln wd ns j) (ln ns + 1))))) hx hb hK.1 hP 7 0 rfl rfl (by omega) (by omega) (lmS_in (by omega)) dX6_against_89 ?_
        refine ci_icmp_ge (X := ((dg 65536 (t - 1) ((sgPr (fun a b w => sgO (rwS ln wd ns) ord e a b w) (fun j => sgSy ln wd ns j) (ln ns + 1)) * KU) : Nat) : Int)) (Y := ((dg 65536 (t - 1) (KO * (sgPr (fun a b w => sgU (rwS ln wd ns) ord e a b w) (fun j => sgSy ln wd ns j) (ln ns + 1))) : Nat) : Int)) (tgt := 97) hx hb (sg_n (Nat.lt_trans (dg_lt (by decide) _ _) (by decide))) (sg_n (Nat.lt_trans (dg_lt (by decide) _ _) (by decide))) dX6_against_90 rfl (fun h90 => ?_) (fun h90 => ?_)
        · refine lv_iconst (v := nI 1) hx hb dX6_against_97 (by decide) ?_
          exact W.iret hx hb hr (fun tZ ht hW => ⟨⟨_, u1, rfl, (by first | (exfalso; omega) | (have h1 := dg_less (i := t - 1) (X := KO * (sgPr (fun a b w => sgU (rwS ln wd ns) ord e a b w) (fun j => sgSy ln wd ns j) (ln ns + 1))) (Y := (sgPr (fun a b w => sgO (rwS ln wd ns) ord e a b w) (fun j => sgSy ln wd ns j) (ln ns + 1)) * KU) (by rw [Nat.sub_add_cancel (by omega)]; exact hq.symm) (by omega); unfold cmpN; rw [if_neg (by omega), if_neg (by omega)])), by show va_P D vwCl _ tZ.heap; rw [ht]; exact hP⟩, hS.F ht⟩) hS.2.2 dX6_against_98
        · refine lv_iconst (v := -1) hx hb dX6_against_93 (by decide) ?_
          refine lv_goto (tgt := 98) hx hb dX6_against_94 rfl ?_
          exact W.iret hx hb hr (fun tZ ht hW => ⟨⟨_, u1, rfl, (by unfold cmpN; rw [if_pos (dg_less (i := t - 1) (by rw [Nat.sub_add_cancel (by omega)]; exact hq) (by omega))]), by show va_P D vwCl _ tZ.heap; rw [ht]; exact hP⟩, hS.F ht⟩) hS.2.2 dX6_against_98
      · refine lv_iconst (v := nI 0) hx hb dX6_against_66 (by decide) ?_
        refine lv_goto (tgt := 98) hx hb dX6_against_67 rfl ?_
        exact W.iret hx hb hr (fun tZ ht hW => ⟨⟨_, u1, rfl, (by first | (exfalso; omega) | (have h0 : t = 0 := (by omega); rw [h0, Nat.pow_zero, Nat.div_one, Nat.div_one] at hq; unfold cmpN; rw [if_neg (by omega), if_pos hq])), by show va_P D vwCl _ tZ.heap; rw [ht]; exact hP⟩, hS.F ht⟩) hS.2.2 dX6_against_98
    · refine lv_iload_n hx hb dX6_against_55 rfl (lv_at hl 0 rfl) ?_
      refine lv_iconst (v := nI 1) hx hb dX6_against_56 (by decide) ?_
      refine lv_isub hx hb dX6_against_57 ?_
      refine sw_i (y := nI (t - 1) - nI 1) (sg_dec2 (by omega)) ?_
      refine lv_istore_n hx hb dX6_against_58 rfl hl (by decide) rfl (fun ls hl => ?_)
      have hl : lv_has ls 2 [(1, .int (nI (t - 1) - nI 1)), (0, .ref m)] := hl
      refine lv_goto (tgt := 28) hx hb dX6_against_59 rfl ?_
      exact ih28 _ _ _ _ ⟨t - 1, rfl, lv_sub hl [0, 1] rfl, hP, hD, hS, by omega, dg_eq (by rw [Nat.sub_add_cancel (by omega)]; exact hq) (by omega)⟩ (by omega)

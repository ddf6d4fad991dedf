/-! THE CLAIM OUT OF ONE WALK OF THE LAW'S BODY. Your part is whole_start (and what it stands on); all else here is the same for every law, but numbers. -/
def R_law : String := "SmoothedGramsLaw"
def lw_P (b : Addr) (xs : List Int32) (args : Array Value) (s : State) : Prop := args = #[.ref b] ∧ s.IntsAt b xs ∧ xs.length ≤ 2560 ∧ (Jvm.Cond.and given_1 narrow_1).before args s = true
def lw_Q (_ : Array Value) (s : State) (o : Outcome) (t : State) : Prop := o = .returned (some (.int 1)) ∧ Framed s o t [] 600000 7302250
def lw_Z (below : List Frame) (a : Array Value) (s : State) : State → Prop := fun t => ∃ o, t.status = .running ∧ Ended t below o ∧ lw_Q a s o t
/-- the law's own end, with 1 on the stack, nothing written that was there before, its room as the claim has it -/
theorem lw_ret {p : Program} {l : Launch} {e : Env} {s : State} {m : MethodId} {below : List Frame} {meth : Method} {c : Code} {b : Nat} (hx : p.tables.exec = Jvm.exec) (hb : c.code = code) (hr : meth.sig.returnType = ret) (hlocks : meth.locks = false) {pc : Nat} {H : Heap} {ls : Array Slot} (hdg : decode code pc = .ok (.ireturn, 1)) : W p l e room_1 s m #[Value.ref b] below meth c H [] 600000 7302250 (lw_Z below #[Value.ref b] s) (F0 m pc ls [.int 1]) := by
  intro T hT X
  obtain ⟨fs, hret, hrun, hended, hW, hframe⟩ := X.leave (v := some (.int 1)) (hlocks := hlocks) (fun h => by rw [hr] at h; cases h)
  have hmeth' : T.vm.method? m = some meth := X.method'
  refine ⟨T.setFrames fs, ?_, .returned (some (.int 1)), hrun, hended, rfl, ⟨_, rfl⟩, hW, hframe⟩
  jvm_step X.here [X.here.top, hx, hb, hdg, hmeth', hr, ret, narrow_b1]
  (try refine ⟨rfl, ?_⟩); (try refine ⟨rfl, ?_⟩)
  first | (intro acts; rw [hret _ acts rfl rfl rfl]) | rw [hret _ _ rfl rfl rfl]
  exact Steps.refl _
/-- what holds at the law's entry: the machine, the code, the tables' words (any of lw_tbl by 'hts w (by decide +kernel)'), the script of L ints xs at the cell b, what the Statement gives of the start (any of its parts by flat_of_before) -/
def lw_At (p : Program) (s : State) (m : MethodId) (meth : Method) (c : Code) (b L : Nat) (xs : Nat → Int32) : Prop :=
  p.tables.exec = Jvm.exec ∧ c.code = code ∧ meth.sig.returnType = ret ∧ c.maxLocals = 4 ∧ s.vm.findClass R_law = some m.cls ∧ (∀ w ∈ lw_tbl, w.before #[Value.ref b] s = true) ∧ va_X b L xs s s.heap ∧ b < s.heap.size ∧ meth.locks = false ∧ (Jvm.Cond.and given_1 narrow_1).before #[Value.ref b] s = true
/-! the law from its entry -/
theorem sg_over {args : Array Value} {s : State} (h : (Cond.arrayOver (.array .int)).before args s = true) : ∃ (comp c : ClassId) (k : Class), s.vm.findClass "[I" = some comp ∧ s.vm.classes[c]? = some k ∧ k.kind = .array comp (.array .int) ∧ s.vm.findClass "[[I" = some c := by
  have h : (Cond.arrayOver (.array .int)).holds args s none s [] = true := h
  simp only [Cond.holds, Cond.value, beq_iff_eq] at h
  cases hc : s.vm.findClass (FieldType.array .int).toString with
  | none => simp [hc] at h
  | some comp =>
    simp only [hc, Option.bind_some, Option.bind_eq_some_iff, Option.map_eq_some_iff] at h
    obtain ⟨c, hi, k, hk, hb⟩ := h
    obtain ⟨hlt, hp, -⟩ := Array.findIdx?_eq_some_iff_getElem.mp hi
    have hkk : s.vm.classes[c] = k := (Array.getElem?_eq_some_iff.mp hk).2
    rw [hkk] at hp
    cases hkind : k.kind with
    | array component ty =>
      rw [hkind] at hb hp
      simp at hb hp
      exact ⟨comp, c, k, hc, hk, by rw [hkind, hp, hb.1], hb.2⟩
    | _ => rw [hkind] at hb; simp at hb
theorem sg_aof {s : State} {c comp : ClassId} {k : Class} {ty : FieldType} (hk : s.vm.classes[c]? = some k) (hkind : k.kind = .array comp ty) : ArrOfT s c ty := fun n f => ⟨fun x => by simp [arrV], k, hk, comp, hkind⟩
theorem lwI_S {D : va_G} {cI cO : ClassId} {A : Nat → Prop} {H0 : Heap} {z mz : Nat} {ra ax am : Nat → Nat} {H : Heap} {locs : List Loc} (h : lwI D cI cO A H0 z mz ra ax am H locs) : va_S A H0 H locs := by
  obtain ⟨ord, ns, e, ln, wd, KO, KU, fL, fR, f1, f2, f3, fe, x0, x1, cf, cg, xf, yf, ev, y0, y1, ge, gL, gW, ga, gb, gf, lim, hP, hD, hS, hpu⟩ := h
  exact hS
theorem lim0_80 : sgLim (upd (upd (fun _ => 0) 80 (nI 1)) 120 (nI 1)) 80 1 := by
  intro j hj
  rw [pk_un (by omega)]
  by_cases e : j = 0
  · subst e
    rfl
  · rw [pk_un (by omega), dg16_1 e]
    exact nI_0.symm
theorem lim0_120 : sgLim (upd (upd (fun _ => 0) 80 (nI 1)) 120 (nI 1)) 120 1 := by
  intro j hj
  by_cases e : j = 0
  · subst e
    rfl
  · rw [pk_un (by omega), pk_un (by omega), dg16_1 e]
    exact nI_0.symm
theorem lwP_0 : lwP 3 0 (fun _ => 6) (fun _ => 0) (fun _ _ => 0) 1 1 (fun _ => 0) (fun _ _ => 0) (fun _ => 0) (fun _ => 0) (fun _ => 0) e0F (upd (upd (upd (upd (fun _ => 0) 0 (nI 0)) 1 (nI 6)) 2 (nI 6)) 3 (nI 6)) (fun _ => 0) (fun _ => 0) (upd (upd (fun _ => 0) 80 (nI 1)) 120 (nI 1)) := by
  refine ⟨⟨by omega, by omega, fun k _ _ => ⟨by show 1 ≤ 6; omega, by show 6 ≤ 8; omega⟩, by decide +kernel, by decide +kernel⟩, fun s _ => ⟨nI_0.symm, fun i hi => absurd hi (Nat.not_lt_zero _)⟩, fun s _ => ⟨nI_0.symm, by show 0 ≤ 8; omega, fun i hi => absurd hi (Nat.not_lt_zero _), fun i hi => absurd hi (Nat.not_lt_zero _)⟩, ⟨fun r _ => nI_0.symm, fun r _ => nI_0.symm, fun r _ => nI_0.symm⟩, ⟨fun k h1 h2 => ?_, fun k h1 h2 => ?_⟩, lim0_80, lim0_120⟩
  · have h3 : k = 1 ∨ k = 2 ∨ k = 3 := by omega
    rcases h3 with rfl | rfl | rfl <;> rfl
  · have h3 : k = 1 ∨ k = 2 ∨ k = 3 := by omega
    rcases h3 with rfl | rfl | rfl <;> rfl
/-- what the tables say at the law's start -/
theorem sg_known {s : State} {a : Array Value} (htl : ∀ w ∈ lw_tbl, w.before a s = true) : ∃ (D : va_G) (cI cO : ClassId), sgK D cI cO s := by
  have hts : ∀ w ∈ sgT, w.before a s = true := fun w h => htl w (List.mem_filter.mp h).1
  obtain ⟨c0, i0, k0⟩ := u_known hts (C := RX0) (T := TX0) (N := 2) hinX0 (hts _ it_X0)
  obtain ⟨c1, i1, k1⟩ := u_known hts (C := RX1) (T := TX1) (N := 4) hinX1 (hts _ it_X1)
  obtain ⟨c2, i2, k2⟩ := u_known hts (C := RX2) (T := TX2) (N := 1) hinX2 (hts _ it_X2)
  obtain ⟨c3, i3, k3⟩ := u_known hts (C := RX3) (T := TX3) (N := 2) hinX3 (hts _ it_X3)
  obtain ⟨c4, i4, k4⟩ := u_known hts (C := RX4) (T := TX4) (N := 3) hinX4 (hts _ it_X4)
  obtain ⟨c5, i5, k5⟩ := u_known hts (C := RX5) (T := TX5) (N := 8) hinX5 (hts _ it_X5)
  obtain ⟨c6, i6, k6⟩ := u_known hts (C := RX6) (T := TX6) (N := 12) hinX6 (hts _ it_X6)
  obtain ⟨cI, kI, cc, hI1, hI2, hI3⟩ := Cond.arrayClass_spec (hts _ ac_I)
  obtain ⟨comp, cO, kO, hO1, hO2, hO3, hO4⟩ := sg_over (htl _ ao_I)
  have hI1 : s.vm.findClass "[I" = some cI := hI1
  cases Option.some.inj (hO1.symm.trans hI1)
  refine ⟨(fun c => [c0, c1, c2, c3, c4, c5, c6].getD c 0, fun c => [i0, i1, i2, i3, i4, i5, i6].getD c (fun _ => 0)), cI, cO, ⟨fun c q hq => ?_, fun k q hq => ?_⟩, ⟨kO, hO2, hO3⟩, ⟨va_Nw.of rfl (htl _ nl_X1_25), va_Nw.of rfl (htl _ nl_X1_36), va_Nw.of rfl (htl _ nl_X0_26)⟩, va_Nw.of rfl (htl _ nl_X5_9), va_Nw.of rfl (htl _ nl_X5_18), va_Nw.of rfl (htl _ nl_X5_29)⟩
  · have hl : c < 7 := (List.getElem?_eq_some_iff.mp hq).1
    have h7 : c = 0 ∨ c = 1 ∨ c = 2 ∨ c = 3 ∨ c = 4 ∨ c = 5 ∨ c = 6 := by omega
    rcases h7 with rfl | rfl | rfl | rfl | rfl | rfl | rfl <;> cases hq
    · exact k0
    · exact k1
    · exact k2
    · exact k3
    · exact k4
    · exact k5
    · exact k6
  · have hl : k < 2 := (List.getElem?_eq_some_iff.mp hq).1
    have h2 : k = 0 ∨ k = 1 := by omega
    rcases h2 with rfl | rfl <;> cases hq
    · exact ⟨sg_aof hI2 hI3, hI1⟩
    · exact ⟨sg_aof hO2 hO3, hO4⟩
set_option maxHeartbeats 4000000 in
set_option maxRecDepth 100000 in
/-- from the entry, for every script of at most 2560 ints, the law comes to its end with true -/
theorem whole_start {p : Program} {e : Env} {s : State} {m : MethodId} {below : List Frame} {meth : Method} {c : Code} (l : Launch) {b L : Nat} {xs : Nat → Int32} (hL : L ≤ 2560) (C0 : lw_At p s m meth c b L xs) : W p l e room_1 s m #[Value.ref b] below meth c s.heap [] 0 0 (lw_Z below #[Value.ref b] s) (entryFrame m ([Value.ref b] : List Value).toArray 4) := by
  obtain ⟨hx, hb, hr, hml, hown, htl, hX, hbl, hlocks, hgv⟩ := C0
  have hts : ∀ w ∈ sgT, w.before #[Value.ref b] s = true := fun w h => htl w (List.mem_filter.mp h).1
  have hb : c.code = cL_law := hb
  have hown : s.vm.findClass RL = some m.cls := hown
  obtain ⟨D, cI, cO, hK⟩ := sg_known htl
  obtain ⟨A, hAe⟩ : ∃ A : Nat → Prop, A = fun q => s.heap.size ≤ q := ⟨_, rfl⟩
  have hA : ∀ q : Nat, s.heap.size ≤ q → A q := fun q h => by rw [hAe]; exact h
  have hbA : ¬ A b := by rw [hAe]; exact Nat.not_le.mpr hbl
  have hP : va_P D vwCl [] s.heap := fun k q h => by simp at h
  have hD : va_D A [] := ⟨fun i j x y h => by simp at h, fun k q h => by simp at h⟩
  have hS : va_S A s.heap s.heap [] := va_S.rf
  have hl := lv_entry ([Value.ref b]) (n := 4) (Nat.le_of_ble_eq_true rfl)
  rw [lg_entry_eq]
  generalize (lg_sl ([Value.ref b]) ++ List.replicate (4 - (lg_sl ([Value.ref b])).length) Slot.unset).toArray = ls at hl ⊢
  have hl : lv_has ls 4 [(0, .ref b)] := hl
  refine va_new (D := D) (ci := 5) (fs := [.null, .null, .null, .null, .null, .null, .null, .null]) (C := RX5) (T := TX5) (N := 8) hx hb hts hinX5 tyX5 tyX5_ok hown (hts _ cl_L_7) (hts _ it_X5) (hts _ in_X5) hK.1 hP hD hS hA rfl (fun j hj => by rcases (show j = 0 ∨ j = 1 ∨ j = 2 ∨ j = 3 ∨ j = 4 ∨ j = 5 ∨ j = 6 ∨ j = 7 by omega) with rfl | rfl | rfl | rfl | rfl | rfl | rfl | rfl <;> rfl) (Nat.le_of_ble_eq_true rfl) (Nat.le_of_ble_eq_true rfl) dL_law_0 (fun q0 H hP hD hS => ?_)
  have hP : va_P D vwCl [(q0, .inr (5, [.null, .null, .null, .null, .null, .null, .null, .null]))] H := hP
  have hD : va_D A [(q0, .inr (5, [.null, .null, .null, .null, .null, .null, .null, .null]))] := hD
  refine lv_dup hx hb dL_law_3 rfl ?_
  refine sg_callN (wr := []) (va_runI (As := []) (rest := [.ref q0]) ⟨hx, hb, hml, hown, hts⟩ (c_X5_init l D cI cO q0 H.size) ⟨sg_cB 0 hts mcX5_init ml_L_9 in_X5 rfl rfl (by decide +kernel) ⟨Nat.le_of_ble_eq_true rfl, Nat.le_of_ble_eq_true rfl⟩, rfl, hts _ im_X5_init⟩ (sg_nS hK hP hD [0] (by decide) rfl) rfl rfl hl.1 rfl (lv_room (Nat.le_of_ble_eq_true rfl)) dL_law_4 ⟨Nat.le_of_ble_eq_true rfl, Nat.le_of_ble_eq_true rfl⟩) hP hD hS hA [0] [] rfl rfl (by decide) (by decide) (fun u4 H locs _ hP hD hS => ?_)
  have hP := hP.sub (ws' := (rw9 u4.1 cI (fun _ _ => 0) ++ [(q0, .inr (5, [.ref (u4.2 0), .ref (u4.2 3), .ref (u4.2 7), .ref (u4.2 8), .ref (u4.2 9), .ref (u4.2 14), .ref (u4.2 19), .ref (u4.2 21)])), ((u4.2 0), .inr (4, [.ref (u4.2 1), .ref (u4.2 2), .int (nI 0)])), ((u4.2 1), .inl (cO, 9, .inr (.inr (.inr (.inr (fun j => some (u4.1 j))))))), ((u4.2 2), .inl (cI, 9, .inl (fun _ => 0))), ((u4.2 3), .inr (1, [.ref (u4.2 4), .ref (u4.2 5), .ref (u4.2 6), .int (nI 3)])), ((u4.2 4), .inl (cI, 7, .inl (fun _ => 0))), ((u4.2 5), .inl (cI, 49, .inl (fun _ => 0))), ((u4.2 6), .inl (cI, 343, .inl (fun _ => 0))), ((u4.2 7), .inl (cI, 4, .inl e0F)), ((u4.2 8), .inr (0, [.long (lN 1), .long (lN 6)])), ((u4.2 9), .inr (3, [.ref (u4.2 10), .ref (u4.2 12)])), ((u4.2 10), .inr (2, [.ref (u4.2 11)])), ((u4.2 11), .inl (cI, 9, .inl (dF 1))), ((u4.2 12), .inr (2, [.ref (u4.2 13)])), ((u4.2 13), .inl (cI, 9, .inl (dF 1))), ((u4.2 14), .inr (3, [.ref (u4.2 15), .ref (u4.2 17)])), ((u4.2 15), .inr (2, [.ref (u4.2 16)])), ((u4.2 16), .inl (cI, 9, .inl (dF 1))), ((u4.2 17), .inr (2, [.ref (u4.2 18)])), ((u4.2 18), .inl (cI, 9, .inl (dF 1))), ((u4.2 19), .inr (2, [.ref (u4.2 20)])), ((u4.2 20), .inl (cI, 18, .inl (fun _ => 0))), ((u4.2 21), .inr (2, [.ref (u4.2 22)])), ((u4.2 22), .inl (cI, 18, .inl (fun _ => 0)))])) [0, 1, 2, 3, 4, 5, 6, 7, 8, 9, 10, 11, 12, 13, 14, 15, 16, 17, 18, 19, 20, 21, 22, 23, 24, 25, 26, 27, 28, 29, 30, 31, 32] rfl
  have hD := hD.sub (ws' := (rw9 u4.1 cI (fun _ _ => 0) ++ [(q0, .inr (5, [.ref (u4.2 0), .ref (u4.2 3), .ref (u4.2 7), .ref (u4.2 8), .ref (u4.2 9), .ref (u4.2 14), .ref (u4.2 19), .ref (u4.2 21)])), ((u4.2 0), .inr (4, [.ref (u4.2 1), .ref (u4.2 2), .int (nI 0)])), ((u4.2 1), .inl (cO, 9, .inr (.inr (.inr (.inr (fun j => some (u4.1 j))))))), ((u4.2 2), .inl (cI, 9, .inl (fun _ => 0))), ((u4.2 3), .inr (1, [.ref (u4.2 4), .ref (u4.2 5), .ref (u4.2 6), .int (nI 3)])), ((u4.2 4), .inl (cI, 7, .inl (fun _ => 0))), ((u4.2 5), .inl (cI, 49, .inl (fun _ => 0))), ((u4.2 6), .inl (cI, 343, .inl (fun _ => 0))), ((u4.2 7), .inl (cI, 4, .inl e0F)), ((u4.2 8), .inr (0, [.long (lN 1), .long (lN 6)])), ((u4.2 9), .inr (3, [.ref (u4.2 10), .ref (u4.2 12)])), ((u4.2 10), .inr (2, [.ref (u4.2 11)])), ((u4.2 11), .inl (cI, 9, .inl (dF 1))), ((u4.2 12), .inr (2, [.ref (u4.2 13)])), ((u4.2 13), .inl (cI, 9, .inl (dF 1))), ((u4.2 14), .inr (3, [.ref (u4.2 15), .ref (u4.2 17)])), ((u4.2 15), .inr (2, [.ref (u4.2 16)])), ((u4.2 16), .inl (cI, 9, .inl (dF 1))), ((u4.2 17), .inr (2, [.ref (u4.2 18)])), ((u4.2 18), .inl (cI, 9, .inl (dF 1))), ((u4.2 19), .inr (2, [.ref (u4.2 20)])), ((u4.2 20), .inl (cI, 18, .inl (fun _ => 0))), ((u4.2 21), .inr (2, [.ref (u4.2 22)])), ((u4.2 22), .inl (cI, 18, .inl (fun _ => 0)))])) [0, 1, 2, 3, 4, 5, 6, 7, 8, 9, 10, 11, 12, 13, 14, 15, 16, 17, 18, 19, 20, 21, 22, 23, 24, 25, 26, 27, 28, 29, 30, 31, 32] (by decide) rfl
  refine lv_astore_n hx hb dL_law_7 rfl hl (by decide) rfl (fun ls hl => ?_)
  have hl : lv_has ls 4 [(1, .ref q0), (0, .ref b)] := hl
  refine va_new (D := D) (ci := 6) (fs := [.int (nI 0), .null, .int (nI 0), .null, .null, .int (nI 0), .null, .null, .null, .long (lN 0), .long (lN 0), .null]) (C := RX6) (T := TX6) (N := 12) hx hb hts hinX6 tyX6 tyX6_ok hown (hts _ cl_L_10) (hts _ it_X6) (hts _ in_X6) hK.1 hP hD hS hA rfl (fun j hj => by rcases (show j = 0 ∨ j = 1 ∨ j = 2 ∨ j = 3 ∨ j = 4 ∨ j = 5 ∨ j = 6 ∨ j = 7 ∨ j = 8 ∨ j = 9 ∨ j = 10 ∨ j = 11 by omega) with rfl | rfl | rfl | rfl | rfl | rfl | rfl | rfl | rfl | rfl | rfl | rfl <;> rfl) (Nat.le_of_ble_eq_true rfl) (Nat.le_of_ble_eq_true rfl) dL_law_8 (fun q8 H hP hD hS => ?_)
  have hP : va_P D vwCl (rw9 u4.1 cI (fun _ _ => 0) ++ [(q0, .inr (5, [.ref (u4.2 0), .ref (u4.2 3), .ref (u4.2 7), .ref (u4.2 8), .ref (u4.2 9), .ref (u4.2 14), .ref (u4.2 19), .ref (u4.2 21)])), ((u4.2 0), .inr (4, [.ref (u4.2 1), .ref (u4.2 2), .int (nI 0)])), ((u4.2 1), .inl (cO, 9, .inr (.inr (.inr (.inr (fun j => some (u4.1 j))))))), ((u4.2 2), .inl (cI, 9, .inl (fun _ => 0))), ((u4.2 3), .inr (1, [.ref (u4.2 4), .ref (u4.2 5), .ref (u4.2 6), .int (nI 3)])), ((u4.2 4), .inl (cI, 7, .inl (fun _ => 0))), ((u4.2 5), .inl (cI, 49, .inl (fun _ => 0))), ((u4.2 6), .inl (cI, 343, .inl (fun _ => 0))), ((u4.2 7), .inl (cI, 4, .inl e0F)), ((u4.2 8), .inr (0, [.long (lN 1), .long (lN 6)])), ((u4.2 9), .inr (3, [.ref (u4.2 10), .ref (u4.2 12)])), ((u4.2 10), .inr (2, [.ref (u4.2 11)])), ((u4.2 11), .inl (cI, 9, .inl (dF 1))), ((u4.2 12), .inr (2, [.ref (u4.2 13)])), ((u4.2 13), .inl (cI, 9, .inl (dF 1))), ((u4.2 14), .inr (3, [.ref (u4.2 15), .ref (u4.2 17)])), ((u4.2 15), .inr (2, [.ref (u4.2 16)])), ((u4.2 16), .inl (cI, 9, .inl (dF 1))), ((u4.2 17), .inr (2, [.ref (u4.2 18)])), ((u4.2 18), .inl (cI, 9, .inl (dF 1))), ((u4.2 19), .inr (2, [.ref (u4.2 20)])), ((u4.2 20), .inl (cI, 18, .inl (fun _ => 0))), ((u4.2 21), .inr (2, [.ref (u4.2 22)])), ((u4.2 22), .inl (cI, 18, .inl (fun _ => 0))), (q8, .inr (6, [.int (nI 0), .null, .int (nI 0), .null, .null, .int (nI 0), .null, .null, .null, .long (lN 0), .long (lN 0), .null]))]) H := hP
  have hD : va_D A (rw9 u4.1 cI (fun _ _ => 0) ++ [(q0, .inr (5, [.ref (u4.2 0), .ref (u4.2 3), .ref (u4.2 7), .ref (u4.2 8), .ref (u4.2 9), .ref (u4.2 14), .ref (u4.2 19), .ref (u4.2 21)])), ((u4.2 0), .inr (4, [.ref (u4.2 1), .ref (u4.2 2), .int (nI 0)])), ((u4.2 1), .inl (cO, 9, .inr (.inr (.inr (.inr (fun j => some (u4.1 j))))))), ((u4.2 2), .inl (cI, 9, .inl (fun _ => 0))), ((u4.2 3), .inr (1, [.ref (u4.2 4), .ref (u4.2 5), .ref (u4.2 6), .int (nI 3)])), ((u4.2 4), .inl (cI, 7, .inl (fun _ => 0))), ((u4.2 5), .inl (cI, 49, .inl (fun _ => 0))), ((u4.2 6), .inl (cI, 343, .inl (fun _ => 0))), ((u4.2 7), .inl (cI, 4, .inl e0F)), ((u4.2 8), .inr (0, [.long (lN 1), .long (lN 6)])), ((u4.2 9), .inr (3, [.ref (u4.2 10), .ref (u4.2 12)])), ((u4.2 10), .inr (2, [.ref (u4.2 11)])), ((u4.2 11), .inl (cI, 9, .inl (dF 1))), ((u4.2 12), .inr (2, [.ref (u4.2 13)])), ((u4.2 13), .inl (cI, 9, .inl (dF 1))), ((u4.2 14), .inr (3, [.ref (u4.2 15), .ref (u4.2 17)])), ((u4.2 15), .inr (2, [.ref (u4.2 16)])), ((u4.2 16), .inl (cI, 9, .inl (dF 1))), ((u4.2 17), .inr (2, [.ref (u4.2 18)])), ((u4.2 18), .inl (cI, 9, .inl (dF 1))), ((u4.2 19), .inr (2, [.ref (u4.2 20)])), ((u4.2 20), .inl (cI, 18, .inl (fun _ => 0))), ((u4.2 21), .inr (2, [.ref (u4.2 22)])), ((u4.2 22), .inl (cI, 18, .inl (fun _ => 0))), (q8, .inr (6, [.int (nI 0), .null, .int (nI 0), .null, .null, .int (nI 0), .null, .null, .null, .long (lN 0), .long (lN 0), .null]))]) := hD
  refine lv_dup hx hb dL_law_11 rfl ?_
  refine sg_callN (wr := (rw9 u4.1 cI (fun _ _ => 0) ++ [(q0, .inr (5, [.ref (u4.2 0), .ref (u4.2 3), .ref (u4.2 7), .ref (u4.2 8), .ref (u4.2 9), .ref (u4.2 14), .ref (u4.2 19), .ref (u4.2 21)])), ((u4.2 0), .inr (4, [.ref (u4.2 1), .ref (u4.2 2), .int (nI 0)])), ((u4.2 1), .inl (cO, 9, .inr (.inr (.inr (.inr (fun j => some (u4.1 j))))))), ((u4.2 2), .inl (cI, 9, .inl (fun _ => 0))), ((u4.2 3), .inr (1, [.ref (u4.2 4), .ref (u4.2 5), .ref (u4.2 6), .int (nI 3)])), ((u4.2 4), .inl (cI, 7, .inl (fun _ => 0))), ((u4.2 5), .inl (cI, 49, .inl (fun _ => 0))), ((u4.2 6), .inl (cI, 343, .inl (fun _ => 0))), ((u4.2 7), .inl (cI, 4, .inl e0F)), ((u4.2 8), .inr (0, [.long (lN 1), .long (lN 6)])), ((u4.2 9), .inr (3, [.ref (u4.2 10), .ref (u4.2 12)])), ((u4.2 10), .inr (2, [.ref (u4.2 11)])), ((u4.2 11), .inl (cI, 9, .inl (dF 1))), ((u4.2 12), .inr (2, [.ref (u4.2 13)])), ((u4.2 13), .inl (cI, 9, .inl (dF 1))), ((u4.2 14), .inr (3, [.ref (u4.2 15), .ref (u4.2 17)])), ((u4.2 15), .inr (2, [.ref (u4.2 16)])), ((u4.2 16), .inl (cI, 9, .inl (dF 1))), ((u4.2 17), .inr (2, [.ref (u4.2 18)])), ((u4.2 18), .inl (cI, 9, .inl (dF 1))), ((u4.2 19), .inr (2, [.ref (u4.2 20)])), ((u4.2 20), .inl (cI, 18, .inl (fun _ => 0))), ((u4.2 21), .inr (2, [.ref (u4.2 22)])), ((u4.2 22), .inl (cI, 18, .inl (fun _ => 0)))])) (va_runI (As := []) (rest := [.ref q8]) ⟨hx, hb, hml, hown, hts⟩ (c_X6_init l D cI cO q8 H.size) ⟨sg_cB 0 hts mcX6_init ml_L_12 in_X6 rfl rfl (by decide +kernel) ⟨Nat.le_of_ble_eq_true rfl, Nat.le_of_ble_eq_true rfl⟩, rfl, hts _ im_X6_init⟩ (sg_nS hK hP hD [33] (by decide) rfl) rfl rfl hl.1 rfl (lv_room (Nat.le_of_ble_eq_true rfl)) dL_law_12 ⟨Nat.le_of_ble_eq_true rfl, Nat.le_of_ble_eq_true rfl⟩) hP hD hS hA [33] [0, 1, 2, 3, 4, 5, 6, 7, 8, 9, 10, 11, 12, 13, 14, 15, 16, 17, 18, 19, 20, 21, 22, 23, 24, 25, 26, 27, 28, 29, 30, 31, 32] rfl rfl (by decide) (by decide) (fun u12 H locs _ hP hD hS => ?_)
  have hP : va_P D vwCl (rw9 u4.1 cI (fun _ _ => 0) ++ [(q0, .inr (5, [.ref (u4.2 0), .ref (u4.2 3), .ref (u4.2 7), .ref (u4.2 8), .ref (u4.2 9), .ref (u4.2 14), .ref (u4.2 19), .ref (u4.2 21)])), ((u4.2 0), .inr (4, [.ref (u4.2 1), .ref (u4.2 2), .int (nI 0)])), ((u4.2 1), .inl (cO, 9, .inr (.inr (.inr (.inr (fun j => some (u4.1 j))))))), ((u4.2 2), .inl (cI, 9, .inl (fun _ => 0))), ((u4.2 3), .inr (1, [.ref (u4.2 4), .ref (u4.2 5), .ref (u4.2 6), .int (nI 3)])), ((u4.2 4), .inl (cI, 7, .inl (fun _ => 0))), ((u4.2 5), .inl (cI, 49, .inl (fun _ => 0))), ((u4.2 6), .inl (cI, 343, .inl (fun _ => 0))), ((u4.2 7), .inl (cI, 4, .inl e0F)), ((u4.2 8), .inr (0, [.long (lN 1), .long (lN 6)])), ((u4.2 9), .inr (3, [.ref (u4.2 10), .ref (u4.2 12)])), ((u4.2 10), .inr (2, [.ref (u4.2 11)])), ((u4.2 11), .inl (cI, 9, .inl (dF 1))), ((u4.2 12), .inr (2, [.ref (u4.2 13)])), ((u4.2 13), .inl (cI, 9, .inl (dF 1))), ((u4.2 14), .inr (3, [.ref (u4.2 15), .ref (u4.2 17)])), ((u4.2 15), .inr (2, [.ref (u4.2 16)])), ((u4.2 16), .inl (cI, 9, .inl (dF 1))), ((u4.2 17), .inr (2, [.ref (u4.2 18)])), ((u4.2 18), .inl (cI, 9, .inl (dF 1))), ((u4.2 19), .inr (2, [.ref (u4.2 20)])), ((u4.2 20), .inl (cI, 18, .inl (fun _ => 0))), ((u4.2 21), .inr (2, [.ref (u4.2 22)])), ((u4.2 22), .inl (cI, 18, .inl (fun _ => 0))), (q8, .inr (6, [.int (nI 3), .ref (u12 0), .int (nI 0), .ref (u12 1), .ref (u12 2), .int (nI 0), .ref (u12 3), .ref (u12 4), .ref (u12 5), .long (lN 0), .long (lN 0), .ref (u12 6)])), ((u12 0), .inl (cI, 4, .inl (upd (upd (upd (upd (fun _ => 0) 0 (nI 0)) 1 (nI 6)) 2 (nI 6)) 3 (nI 6)))), ((u12 1), .inl (cI, 9, .inl (fun _ => 0))), ((u12 2), .inl (cI, 72, .inl (fun _ => 0))), ((u12 3), .inl (cI, 72, .inl (fun _ => 0))), ((u12 4), .inl (cI, 72, .inl (fun _ => 0))), ((u12 5), .inl (cI, 72, .inl (fun _ => 0))), ((u12 6), .inl (cI, 240, .inl (upd (upd (fun _ => 0) 80 (nI 1)) 120 (nI 1))))]) H := hP
  have hD : va_D A (rw9 u4.1 cI (fun _ _ => 0) ++ [(q0, .inr (5, [.ref (u4.2 0), .ref (u4.2 3), .ref (u4.2 7), .ref (u4.2 8), .ref (u4.2 9), .ref (u4.2 14), .ref (u4.2 19), .ref (u4.2 21)])), ((u4.2 0), .inr (4, [.ref (u4.2 1), .ref (u4.2 2), .int (nI 0)])), ((u4.2 1), .inl (cO, 9, .inr (.inr (.inr (.inr (fun j => some (u4.1 j))))))), ((u4.2 2), .inl (cI, 9, .inl (fun _ => 0))), ((u4.2 3), .inr (1, [.ref (u4.2 4), .ref (u4.2 5), .ref (u4.2 6), .int (nI 3)])), ((u4.2 4), .inl (cI, 7, .inl (fun _ => 0))), ((u4.2 5), .inl (cI, 49, .inl (fun _ => 0))), ((u4.2 6), .inl (cI, 343, .inl (fun _ => 0))), ((u4.2 7), .inl (cI, 4, .inl e0F)), ((u4.2 8), .inr (0, [.long (lN 1), .long (lN 6)])), ((u4.2 9), .inr (3, [.ref (u4.2 10), .ref (u4.2 12)])), ((u4.2 10), .inr (2, [.ref (u4.2 11)])), ((u4.2 11), .inl (cI, 9, .inl (dF 1))), ((u4.2 12), .inr (2, [.ref (u4.2 13)])), ((u4.2 13), .inl (cI, 9, .inl (dF 1))), ((u4.2 14), .inr (3, [.ref (u4.2 15), .ref (u4.2 17)])), ((u4.2 15), .inr (2, [.ref (u4.2 16)])), ((u4.2 16), .inl (cI, 9, .inl (dF 1))), ((u4.2 17), .inr (2, [.ref (u4.2 18)])), ((u4.2 18), .inl (cI, 9, .inl (dF 1))), ((u4.2 19), .inr (2, [.ref (u4.2 20)])), ((u4.2 20), .inl (cI, 18, .inl (fun _ => 0))), ((u4.2 21), .inr (2, [.ref (u4.2 22)])), ((u4.2 22), .inl (cI, 18, .inl (fun _ => 0))), (q8, .inr (6, [.int (nI 3), .ref (u12 0), .int (nI 0), .ref (u12 1), .ref (u12 2), .int (nI 0), .ref (u12 3), .ref (u12 4), .ref (u12 5), .long (lN 0), .long (lN 0), .ref (u12 6)])), ((u12 0), .inl (cI, 4, .inl (upd (upd (upd (upd (fun _ => 0) 0 (nI 0)) 1 (nI 6)) 2 (nI 6)) 3 (nI 6)))), ((u12 1), .inl (cI, 9, .inl (fun _ => 0))), ((u12 2), .inl (cI, 72, .inl (fun _ => 0))), ((u12 3), .inl (cI, 72, .inl (fun _ => 0))), ((u12 4), .inl (cI, 72, .inl (fun _ => 0))), ((u12 5), .inl (cI, 72, .inl (fun _ => 0))), ((u12 6), .inl (cI, 240, .inl (upd (upd (fun _ => 0) 80 (nI 1)) 120 (nI 1))))]) := hD
  refine lv_astore_n hx hb dL_law_15 rfl hl (by decide) rfl (fun ls hl => ?_)
  have hl : lv_has ls 4 [(2, .ref q8), (1, .ref q0), (0, .ref b)] := hl
  refine lv_iconst (v := nI 0) hx hb dL_law_16 (by decide) ?_
  refine lv_istore_n hx hb dL_law_17 rfl hl (by decide) rfl (fun ls hl => ?_)
  have hl : lv_has ls 4 [(3, .int (nI 0)), (2, .ref q8), (1, .ref q0), (0, .ref b)] := hl
  refine sw_loop (I := fun kM ls H locs => ∃ i : Nat, kM = L + 5 - i ∧ lv_has ls 4 [(3, .int (nI i)), (2, .ref q8), (1, .ref q0), (0, .ref b)] ∧ lwI D cI cO A s.heap q0 q8 u4.1 u4.2 u12 H locs ∧ i ≤ L) ?_ _ ⟨0, rfl, hl, ⟨3, 0, fun _ => 6, fun _ => 0, fun _ _ => 0, 1, 1, fun _ => 0, fun _ _ => 0, fun _ => 0, fun _ => 0, fun _ => 0, e0F, lN 1, lN 6, dF 1, dF 1, fun _ => 0, fun _ => 0, nI 0, lN 0, lN 0, upd (upd (upd (upd (fun _ => 0) 0 (nI 0)) 1 (nI 6)) 2 (nI 6)) 3 (nI 6), fun _ => 0, fun _ => 0, fun _ => 0, fun _ => 0, fun _ => 0, upd (upd (fun _ => 0) 80 (nI 1)) 120 (nI 1), hP, hD, hS, lwP_0⟩, Nat.zero_le _⟩
  intro kM ls H locs hI ih
  obtain ⟨i, hkM, hl, hI, hiL⟩ := hI
  have hS := lwI_S hI
  refine lv_iload_n hx hb dL_law_18 rfl (lv_at hl 0 rfl) ?_
  refine lv_aload_n hx hb dL_law_19 rfl (lv_at hl 3 rfl) ?_
  refine va_slen hx hb hX hbl hbA hS dL_law_20 ?_
  refine lv_iconst (v := nI 5) hx hb dL_law_21 (by decide) ?_
  refine lv_isub hx hb dL_law_22 ?_
  have hce : (0 + 1 + 32 + 1 + 7) ≤ 600000 := Nat.le_of_ble_eq_true rfl
  have hsl : (0 + 8 + 584 + 12 + 541) ≤ 7302250 := Nat.le_of_ble_eq_true rfl
  refine ci_icmp_gt (X := ((i : Nat) : Int)) (Y := ((L : Nat) : Int) - ((5 : Nat) : Int)) (tgt := 613) hx hb (sg_n (by omega)) (pk_sub_toInt (a := L) (b := 5) (by omega) (by omega)) dL_law_23 rfl (fun h23 => ?_) (fun h23 => ?_)
  · refine lv_iconst (v := 1) hx hb dL_law_613 (by decide) ?_
    refine va_forget (fun q hq => by have h9 := hS.2.2 q hq; rw [hAe] at h9; exact h9) ?_
    refine W.widen (k := 600000) (n := 7302250) hce hsl ?_
    exact lw_ret hx hb hr hlocks dL_law_614
  · have k607 : ∀ (H : Heap) (locs : List Loc), lwI D cI cO A s.heap q0 q8 u4.1 u4.2 u12 H locs → W p l e room_1 s m #[Value.ref b] below meth c H locs (0 + 1 + 32 + 1 + 7) (0 + 8 + 584 + 12 + 541) (lw_Z below #[Value.ref b] s) (F0 m 607 ls []) := by
      intro H locs hI
      refine lv_iinc (v := nI (i + 5)) hx hb dL_law_607 hl (k := 0) rfl (by rw [show Int32.ofInt 5 = nI 5 from by decide]; exact nI_add i 5) (by decide) rfl (fun ls hl => ?_)
      have hl : lv_has ls 4 [(3, .int (nI (i + 5))), (2, .ref q8), (1, .ref q0), (0, .ref b)] := hl
      refine lv_goto (tgt := 18) hx hb dL_law_610 rfl ?_
      exact ih _ _ _ _ ⟨i + 5, rfl, hl, hI, by omega⟩ (by omega)
    refine lv_aload_n hx hb dL_law_26 rfl (lv_at hl 3 rfl) ?_
    refine lv_iload_n hx hb dL_law_27 rfl (lv_at hl 0 rfl) ?_
    refine n_sld (v := xs i) hx hb hX hbl hbA hS (by omega) (by omega) rfl dL_law_28 ?_
    refine lv_bipush (v := nI 31) hx hb dL_law_29 (by decide) ?_
    refine lv_iand hx hb dL_law_31 ?_
    obtain ⟨j, hj, ej⟩ := sg_s31 (xs i)
    refine sw_i (y := nI j) ej ?_
    by_cases h16 : j ≤ 16
    · have h17 : j = 0 ∨ j = 1 ∨ j = 2 ∨ j = 3 ∨ j = 4 ∨ j = 5 ∨ j = 6 ∨ j = 7 ∨ j = 8 ∨ j = 9 ∨ j = 10 ∨ j = 11 ∨ j = 12 ∨ j = 13 ∨ j = 14 ∨ j = 15 ∨ j = 16 := by omega
      rcases h17 with rfl | rfl | rfl | rfl | rfl | rfl | rfl | rfl | rfl | rfl | rfl | rfl | rfl | rfl | rfl | rfl | rfl
      · refine lv_tableIn (tgt := 116) (off := 84) hx hb dL_law_32 (by decide) (by decide) (by decide) rfl ?_
        exact lw_c0 hce hsl hx hb hml hown hts hX hbl hbA hL hK (by omega) hl hI k607
      · refine lv_tableIn (tgt := 139) (off := 107) hx hb dL_law_32 (by decide) (by decide) (by decide) rfl ?_
        exact lw_c1 hce hsl hx hb hml hown hts hX hbl hbA hL hK (by omega) hl hI k607
      · refine lv_tableIn (tgt := 172) (off := 140) hx hb dL_law_32 (by decide) (by decide) (by decide) rfl ?_
        exact lw_c2 hce hsl hx hb hml hown hts hX hbl hbA hL hK (by omega) hl hI k607
      · refine lv_tableIn (tgt := 195) (off := 163) hx hb dL_law_32 (by decide) (by decide) (by decide) rfl ?_
        exact lw_c3 hce hsl hx hb hml hown hts hX hbl hbA hL hK (by omega) hl hI k607
      · refine lv_tableIn (tgt := 208) (off := 176) hx hb dL_law_32 (by decide) (by decide) (by decide) rfl ?_
        exact lw_c4 hce hsl hx hb hml hown hts hX hbl hbA hL hK (by omega) hl hI k607
      · refine lv_tableIn (tgt := 221) (off := 189) hx hb dL_law_32 (by decide) (by decide) (by decide) rfl ?_
        exact lw_c5 hce hsl hx hb hml hown hts hX hbl hbA hL hK (by omega) hl hI k607
      · refine lv_tableIn (tgt := 234) (off := 202) hx hb dL_law_32 (by decide) (by decide) (by decide) rfl ?_
        exact lw_c6 hce hsl hx hb hml hown hts hX hbl hbA hL hK (by omega) hl hI k607
      · refine lv_tableIn (tgt := 287) (off := 255) hx hb dL_law_32 (by decide) (by decide) (by decide) rfl ?_
        exact lw_c7 hce hsl hx hb hml hown hts hX hbl hbA hL hK (by omega) hl hI k607
      · refine lv_tableIn (tgt := 330) (off := 298) hx hb dL_law_32 (by decide) (by decide) (by decide) rfl ?_
        exact lw_c8 hce hsl hx hb hml hown hts hX hbl hbA hL hK (by omega) hl hI k607
      · refine lv_tableIn (tgt := 373) (off := 341) hx hb dL_law_32 (by decide) (by decide) (by decide) rfl ?_
        exact lw_c9 hce hsl hx hb hml hown hts hX hbl hbA hL hK (by omega) hl hI k607
      · refine lv_tableIn (tgt := 396) (off := 364) hx hb dL_law_32 (by decide) (by decide) (by decide) rfl ?_
        exact lw_c10 hce hsl hx hb hml hown hts hX hbl hbA hL hK (by omega) hl hI k607
      · refine lv_tableIn (tgt := 429) (off := 397) hx hb dL_law_32 (by decide) (by decide) (by decide) rfl ?_
        exact lw_c11 hce hsl hx hb hml hown hts hX hbl hbA hL hK (by omega) hl hI k607
      · refine lv_tableIn (tgt := 473) (off := 441) hx hb dL_law_32 (by decide) (by decide) (by decide) rfl ?_
        exact lw_c12 hce hsl hx hb hml hown hts hX hbl hbA hL hK (by omega) hl hI k607
      · refine lv_tableIn (tgt := 517) (off := 485) hx hb dL_law_32 (by decide) (by decide) (by decide) rfl ?_
        exact lw_c13 hce hsl hx hb hml hown hts hX hbl hbA hL hK (by omega) hl hI k607
      · refine lv_tableIn (tgt := 550) (off := 518) hx hb dL_law_32 (by decide) (by decide) (by decide) rfl ?_
        exact lw_c14 hce hsl hx hb hml hown hts hX hbl hbA hL hK (by omega) hl hI k607
      · refine lv_tableIn (tgt := 583) (off := 551) hx hb dL_law_32 (by decide) (by decide) (by decide) rfl ?_
        exact lw_c15 hce hsl hx hb hml hown hts hX hbl hbA hL hK (by omega) hl hI k607
      · refine lv_tableIn (tgt := 594) (off := 562) hx hb dL_law_32 (by decide) (by decide) (by decide) rfl ?_
        exact lw_c16 hce hsl hx hb hml hown hts hX hbl hbA hL hK (by omega) hl hI k607
    · refine lv_tableOut (tgt := 607) hx hb dL_law_32 (Or.inr (by rw [sg_n (by omega)]; omega)) rfl ?_
      exact k607 H locs hI

/-! small questions, contexts and rows; the counts -/
theorem sg_ofInt {x : Int32} {n : Nat} (h : x.toInt = (n : Int)) (hn : n < 2147483648) : x = nI n := Int32.toInt_inj.mp (h.trans (nI_toInt hn).symm)
theorem sgAll_le (k : Nat) : sgAll k ≤ 343 := by
  unfold sgAll
  split
  · omega
  · split <;> omega
theorem sgAll_step {k s row : Nat} (h1 : 1 ≤ k) (h2 : k < 3) (hs : s < 7) (hr : row < sgAll k) : s * sgAll k + row < sgAll (k + 1) := by
  have h3 : k = 1 ∨ k = 2 := by omega
  rcases h3 with rfl | rfl <;> simp [sgAll] at hr ⊢ <;> omega
theorem sgBef_row (rw : Nat → Nat → Nat → Nat → Nat) {k s row : Nat} (h1 : 1 ≤ k) (h2 : k < 3) (hs : s < 7) (hr : row < sgAll k) : rw (k + 1) ((s * sgAll k + row) / 49) ((s * sgAll k + row) / 7 % 7) ((s * sgAll k + row) % 7) = if k = 1 then rw 2 0 s (row % 7) else rw 3 s (row / 7 % 7) (row % 7) := by
  have h3 : k = 1 ∨ k = 2 := by omega
  rcases h3 with rfl | rfl
  · have hr : row < 7 := hr
    rw [if_pos rfl]
    show rw 2 ((s * 7 + row) / 49) ((s * 7 + row) / 7 % 7) ((s * 7 + row) % 7) = _
    rw [show (s * 7 + row) / 49 = 0 by omega, show (s * 7 + row) / 7 % 7 = s by omega, show (s * 7 + row) % 7 = row % 7 by omega]
  · have hr : row < 49 := hr
    rw [if_neg (by decide)]
    show rw 3 ((s * 49 + row) / 49) ((s * 49 + row) / 7 % 7) ((s * 49 + row) % 7) = _
    rw [show (s * 49 + row) / 49 = s by omega, show (s * 49 + row) / 7 % 7 = row / 7 % 7 by omega, show (s * 49 + row) % 7 = row % 7 by omega]
theorem sgBef_v {rw : Nat → Nat → Nat → Nat → Nat} (h : sgBd rw) (k s c b : Nat) : (if k = 1 then rw 2 0 s c else rw 3 s b c) ≤ 72 := by
  split
  · exact sgRw_le h _ _ _ _
  · exact sgRw_le h _ _ _ _
theorem sgBef_p {rw : Nat → Nat → Nat → Nat → Nat} {k b c n : Nat} (h : 0 < (if k = 1 then rw 2 0 n c else rw 3 n b c)) : sgBef rw k b c (n + 1) = sgBef rw k b c n + 1 := by
  show _ + (if _ then 1 else 0) = _
  rw [if_pos h]
theorem sgBef_z {rw : Nat → Nat → Nat → Nat → Nat} {k b c n : Nat} (h : ¬ 0 < (if k = 1 then rw 2 0 n c else rw 3 n b c)) : sgBef rw k b c (n + 1) = sgBef rw k b c n := by
  show _ + (if _ then 1 else 0) = _
  rw [if_neg h]
  rfl
theorem sgKin_p {rw : Nat → Nat → Nat → Nat → Nat} {ord k a b n : Nat} (h : 0 < sgC rw ord k a b n) : sgKin rw ord k a b (n + 1) = sgKin rw ord k a b n + 1 := by
  show _ + (if _ then 1 else 0) = _
  rw [if_pos h]
theorem sgKin_z {rw : Nat → Nat → Nat → Nat → Nat} {ord k a b n : Nat} (h : ¬ 0 < sgC rw ord k a b n) : sgKin rw ord k a b (n + 1) = sgKin rw ord k a b n := by
  show _ + (if _ then 1 else 0) = _
  rw [if_neg h]
  rfl
set_option maxHeartbeats 4000000 in
set_option maxRecDepth 100000 in
theorem c_X5_isLevel (l : Launch) (D : va_G) (cI cO : ClassId) (k : Int32)  : Met l yX5_isLevel (.code yX5_isLevel cX5_isLevel 1 (some .boolean) :: sgT) ({ frames := 0, cells := 0, slots := 0, locals := 0 }) (sgPc D cI cO [.int k] []) (vp_Si (fun r => r = bI (1 ≤ k.toInt ∧ k.toInt ≤ 3))) 0 0 (fun _ => False) := by
  refine Met.ofW (cc := cX5_isLevel) (maxL := 1) (ret := (some .boolean)) (by decide) rfl ?_
  intro pZ eZ sZ mZ argsZ belowZ methZ cZ s₁ BZ hml hv
  obtain ⟨rfl, hP, hK⟩ := hv
  have hx := BZ.exec
  have hb := BZ.bytes
  have hr := BZ.returns
  have hts : ∀ wZ ∈ sgT, wZ.before ([.int k] : List Value).toArray sZ = true := fun wZ h => atoms_spec (ws := (.code yX5_isLevel cX5_isLevel 1 (some .boolean) :: sgT)) BZ.pre wZ (List.mem_cons_of_mem _ h)
  have hown : sZ.vm.findClass RX5 = some mZ.cls := findClass_of_methodNamed BZ.named
  have hlocks := BZ.notSynchronized
  have hl := lv_entry ([.int k]) (n := 1) (Nat.le_of_ble_eq_true rfl)
  rw [lg_entry_eq]
  generalize (lg_sl ([.int k]) ++ List.replicate (1 - (lg_sl ([.int k])).length) Slot.unset).toArray = ls at hl ⊢
  have hl : lv_has ls 1 [(0, .int k)] := hl
  refine lv_iload_n hx hb dX5_isLevel_0 rfl (lv_at hl 0 rfl) ?_
  refine lv_iconst (v := nI 1) hx hb dX5_isLevel_1 (by decide) ?_
  refine ci_icmp_lt (X := k.toInt) (Y := ((1 : Nat) : Int)) (tgt := 14) hx hb rfl (sg_n (by omega)) dX5_isLevel_2 rfl (fun h2 => ?_) (fun h2 => ?_)
  · refine lv_iconst (v := nI 0) hx hb dX5_isLevel_14 (by decide) ?_
    exact W.zret hx hb hr rfl (fun tZ ht hW => ⟨_, rfl, (bI_f (P := 1 ≤ k.toInt ∧ k.toInt ≤ 3) (by omega)).symm, ht⟩) (fun q h => by cases h) dX5_isLevel_15
  · refine lv_iload_n hx hb dX5_isLevel_5 rfl (lv_at hl 0 rfl) ?_
    refine lv_iconst (v := nI 3) hx hb dX5_isLevel_6 (by decide) ?_
    refine ci_icmp_gt (X := k.toInt) (Y := ((3 : Nat) : Int)) (tgt := 14) hx hb rfl (sg_n (by omega)) dX5_isLevel_7 rfl (fun h7 => ?_) (fun h7 => ?_)
    · refine lv_iconst (v := nI 0) hx hb dX5_isLevel_14 (by decide) ?_
      exact W.zret hx hb hr rfl (fun tZ ht hW => ⟨_, rfl, (bI_f (P := 1 ≤ k.toInt ∧ k.toInt ≤ 3) (by omega)).symm, ht⟩) (fun q h => by cases h) dX5_isLevel_15
    · refine lv_iconst (v := nI 1) hx hb dX5_isLevel_10 (by decide) ?_
      refine lv_goto (tgt := 15) hx hb dX5_isLevel_11 rfl ?_
      exact W.zret hx hb hr rfl (fun tZ ht hW => ⟨_, rfl, (bI_t (P := 1 ≤ k.toInt ∧ k.toInt ≤ 3) (by omega)).symm, ht⟩) (fun q h => by cases h) dX5_isLevel_15
set_option maxHeartbeats 4000000 in
set_option maxRecDepth 100000 in
theorem c_X5_isSymbol (l : Launch) (D : va_G) (cI cO : ClassId) (x : Int32)  : Met l yX5_isSymbol (.code yX5_isSymbol cX5_isSymbol 1 (some .boolean) :: sgT) ({ frames := 0, cells := 0, slots := 0, locals := 0 }) (sgPc D cI cO [.int x] []) (vp_Si (fun r => r = bI (0 ≤ x.toInt ∧ x.toInt < 7))) 0 0 (fun _ => False) := by
  refine Met.ofW (cc := cX5_isSymbol) (maxL := 1) (ret := (some .boolean)) (by decide) rfl ?_
  intro pZ eZ sZ mZ argsZ belowZ methZ cZ s₁ BZ hml hv
  obtain ⟨rfl, hP, hK⟩ := hv
  have hx := BZ.exec
  have hb := BZ.bytes
  have hr := BZ.returns
  have hts : ∀ wZ ∈ sgT, wZ.before ([.int x] : List Value).toArray sZ = true := fun wZ h => atoms_spec (ws := (.code yX5_isSymbol cX5_isSymbol 1 (some .boolean) :: sgT)) BZ.pre wZ (List.mem_cons_of_mem _ h)
  have hown : sZ.vm.findClass RX5 = some mZ.cls := findClass_of_methodNamed BZ.named
  have hlocks := BZ.notSynchronized
  have hl := lv_entry ([.int x]) (n := 1) (Nat.le_of_ble_eq_true rfl)
  rw [lg_entry_eq]
  generalize (lg_sl ([.int x]) ++ List.replicate (1 - (lg_sl ([.int x])).length) Slot.unset).toArray = ls at hl ⊢
  have hl : lv_has ls 1 [(0, .int x)] := hl
  refine lv_iload_n hx hb dX5_isSymbol_0 rfl (lv_at hl 0 rfl) ?_
  refine ci_if_lt (X := x.toInt) (tgt := 14) hx hb rfl dX5_isSymbol_1 rfl (fun h1 => ?_) (fun h1 => ?_)
  · refine lv_iconst (v := nI 0) hx hb dX5_isSymbol_14 (by decide) ?_
    exact W.zret hx hb hr rfl (fun tZ ht hW => ⟨_, rfl, (bI_f (P := 0 ≤ x.toInt ∧ x.toInt < 7) (by omega)).symm, ht⟩) (fun q h => by cases h) dX5_isSymbol_15
  · refine lv_iload_n hx hb dX5_isSymbol_4 rfl (lv_at hl 0 rfl) ?_
    refine lv_bipush (v := nI 7) hx hb dX5_isSymbol_5 (by decide) ?_
    refine ci_icmp_ge (X := x.toInt) (Y := ((7 : Nat) : Int)) (tgt := 14) hx hb rfl (sg_n (by omega)) dX5_isSymbol_7 rfl (fun h7 => ?_) (fun h7 => ?_)
    · refine lv_iconst (v := nI 0) hx hb dX5_isSymbol_14 (by decide) ?_
      exact W.zret hx hb hr rfl (fun tZ ht hW => ⟨_, rfl, (bI_f (P := 0 ≤ x.toInt ∧ x.toInt < 7) (by omega)).symm, ht⟩) (fun q h => by cases h) dX5_isSymbol_15
    · refine lv_iconst (v := nI 1) hx hb dX5_isSymbol_10 (by decide) ?_
      refine lv_goto (tgt := 15) hx hb dX5_isSymbol_11 rfl ?_
      exact W.zret hx hb hr rfl (fun tZ ht hW => ⟨_, rfl, (bI_t (P := 0 ≤ x.toInt ∧ x.toInt < 7) (by omega)).symm, ht⟩) (fun q h => by cases h) dX5_isSymbol_15
set_option maxHeartbeats 4000000 in
set_option maxRecDepth 100000 in
theorem c_X5_isContext (l : Launch) (D : va_G) (cI cO : ClassId) (k : Int32) (a : Int32) (b : Int32)  : Met l yX5_isContext (.code yX5_isContext cX5_isContext 3 (some .boolean) :: sgT) ({ frames := 1, cells := 0, slots := 0, locals := 20 }) (sgPc D cI cO [.int k, .int a, .int b] []) (vp_Si (fun r => r = bI ((1 ≤ k.toInt ∧ k.toInt ≤ 3) ∧ (k.toInt < 2 ∨ (0 ≤ b.toInt ∧ b.toInt < 7)) ∧ (k.toInt < 3 ∨ (0 ≤ a.toInt ∧ a.toInt < 7))))) 0 0 (fun _ => False) := by
  refine Met.ofW (cc := cX5_isContext) (maxL := 3) (ret := (some .boolean)) (by decide) rfl ?_
  intro pZ eZ sZ mZ argsZ belowZ methZ cZ s₁ BZ hml hv
  obtain ⟨rfl, hP, hK⟩ := hv
  have hx := BZ.exec
  have hb := BZ.bytes
  have hr := BZ.returns
  have hts : ∀ wZ ∈ sgT, wZ.before ([.int k, .int a, .int b] : List Value).toArray sZ = true := fun wZ h => atoms_spec (ws := (.code yX5_isContext cX5_isContext 3 (some .boolean) :: sgT)) BZ.pre wZ (List.mem_cons_of_mem _ h)
  have hown : sZ.vm.findClass RX5 = some mZ.cls := findClass_of_methodNamed BZ.named
  have hlocks := BZ.notSynchronized
  have hl := lv_entry ([.int k, .int a, .int b]) (n := 3) (Nat.le_of_ble_eq_true rfl)
  rw [lg_entry_eq]
  generalize (lg_sl ([.int k, .int a, .int b]) ++ List.replicate (3 - (lg_sl ([.int k, .int a, .int b])).length) Slot.unset).toArray = ls at hl ⊢
  have hl : lv_has ls 3 [(0, .int k), (1, .int a), (2, .int b)] := hl
  refine lv_iload_n hx hb dX5_isContext_0 rfl (lv_at hl 0 rfl) ?_
  refine sg_callRi (va_runS (As := [.int k]) (rest := []) ⟨hx, hb, hml, hown, hts⟩ (c_X5_isLevel l D cI cO k) ⟨(sg_cB 1 hts mcX5_isLevel ml_X5_56 in_X5 rfl rfl (by decide +kernel) ⟨Nat.le_of_ble_eq_true rfl, Nat.le_of_ble_eq_true rfl⟩), hts _ st_X5_isLevel⟩ (sg_pS hK hP [] rfl) rfl rfl hl.1 rfl (lv_room (Nat.le_of_ble_eq_true rfl)) dX5_isContext_1 ⟨Nat.zero_le _, Nat.zero_le _⟩) ?_
  refine ci_beq (P := (1 ≤ k.toInt ∧ k.toInt ≤ 3)) (tgt := 35) hx hb dX5_isContext_4 rfl (fun h4 => ?_) (fun h4 => ?_)
  · refine lv_iconst (v := nI 0) hx hb dX5_isContext_35 (by decide) ?_
    exact W.zret hx hb hr rfl (fun tZ ht hW => ⟨_, rfl, (bI_f (P := (1 ≤ k.toInt ∧ k.toInt ≤ 3) ∧ (k.toInt < 2 ∨ (0 ≤ b.toInt ∧ b.toInt < 7)) ∧ (k.toInt < 3 ∨ (0 ≤ a.toInt ∧ a.toInt < 7))) (by omega)).symm, ht⟩) (fun q h => by cases h) dX5_isContext_36
  · refine lv_iload_n hx hb dX5_isContext_7 rfl (lv_at hl 0 rfl) ?_
    refine lv_iconst (v := nI 2) hx hb dX5_isContext_8 (by decide) ?_
    refine ci_icmp_lt (X := k.toInt) (Y := ((2 : Nat) : Int)) (tgt := 19) hx hb rfl (sg_n (by omega)) dX5_isContext_9 rfl (fun h9 => ?_) (fun h9 => ?_)
    · refine lv_iload_n hx hb dX5_isContext_19 rfl (lv_at hl 0 rfl) ?_
      refine lv_iconst (v := nI 3) hx hb dX5_isContext_20 (by decide) ?_
      refine ci_icmp_lt (X := k.toInt) (Y := ((3 : Nat) : Int)) (tgt := 31) hx hb rfl (sg_n (by omega)) dX5_isContext_21 rfl (fun h21 => ?_) (fun h21 => ?_)
      · refine lv_iconst (v := nI 1) hx hb dX5_isContext_31 (by decide) ?_
        refine lv_goto (tgt := 36) hx hb dX5_isContext_32 rfl ?_
        exact W.zret hx hb hr rfl (fun tZ ht hW => ⟨_, rfl, (bI_t (P := (1 ≤ k.toInt ∧ k.toInt ≤ 3) ∧ (k.toInt < 2 ∨ (0 ≤ b.toInt ∧ b.toInt < 7)) ∧ (k.toInt < 3 ∨ (0 ≤ a.toInt ∧ a.toInt < 7))) (by omega)).symm, ht⟩) (fun q h => by cases h) dX5_isContext_36
      · refine lv_iload_n hx hb dX5_isContext_24 rfl (lv_at hl 1 rfl) ?_
        refine sg_callRi (va_runS (As := [.int a]) (rest := []) ⟨hx, hb, hml, hown, hts⟩ (c_X5_isSymbol l D cI cO a) ⟨(sg_cB 1 hts mcX5_isSymbol ml_X5_90 in_X5 rfl rfl (by decide +kernel) ⟨Nat.le_of_ble_eq_true rfl, Nat.le_of_ble_eq_true rfl⟩), hts _ st_X5_isSymbol⟩ (sg_pS hK hP [] rfl) rfl rfl hl.1 rfl (lv_room (Nat.le_of_ble_eq_true rfl)) dX5_isContext_25 ⟨Nat.zero_le _, Nat.zero_le _⟩) ?_
        refine ci_beq (P := (0 ≤ a.toInt ∧ a.toInt < 7)) (tgt := 35) hx hb dX5_isContext_28 rfl (fun h28 => ?_) (fun h28 => ?_)
        · refine lv_iconst (v := nI 0) hx hb dX5_isContext_35 (by decide) ?_
          exact W.zret hx hb hr rfl (fun tZ ht hW => ⟨_, rfl, (bI_f (P := (1 ≤ k.toInt ∧ k.toInt ≤ 3) ∧ (k.toInt < 2 ∨ (0 ≤ b.toInt ∧ b.toInt < 7)) ∧ (k.toInt < 3 ∨ (0 ≤ a.toInt ∧ a.toInt < 7))) (by omega)).symm, ht⟩) (fun q h => by cases h) dX5_isContext_36
        · refine lv_iconst (v := nI 1) hx hb dX5_isContext_31 (by decide) ?_
          refine lv_goto (tgt := 36) hx hb dX5_isContext_32 rfl ?_
          exact W.zret hx hb hr rfl (fun tZ ht hW => ⟨_, rfl, (bI_t (P := (1 ≤ k.toInt ∧ k.toInt ≤ 3) ∧ (k.toInt < 2 ∨ (0 ≤ b.toInt ∧ b.toInt < 7)) ∧ (k.toInt < 3 ∨ (0 ≤ a.toInt ∧ a.toInt < 7))) (by omega)).symm, ht⟩) (fun q h => by cases h) dX5_isContext_36
    · refine lv_iload_n hx hb dX5_isContext_12 rfl (lv_at hl 2 rfl) ?_
      refine sg_callRi (va_runS (As := [.int b]) (rest := []) ⟨hx, hb, hml, hown, hts⟩ (c_X5_isSymbol l D cI cO b) ⟨(sg_cB 1 hts mcX5_isSymbol ml_X5_90 in_X5 rfl rfl (by decide +kernel) ⟨Nat.le_of_ble_eq_true rfl, Nat.le_of_ble_eq_true rfl⟩), hts _ st_X5_isSymbol⟩ (sg_pS hK hP [] rfl) rfl rfl hl.1 rfl (lv_room (Nat.le_of_ble_eq_true rfl)) dX5_isContext_13 ⟨Nat.zero_le _, Nat.zero_le _⟩) ?_
      refine ci_beq (P := (0 ≤ b.toInt ∧ b.toInt < 7)) (tgt := 35) hx hb dX5_isContext_16 rfl (fun h16 => ?_) (fun h16 => ?_)
      · refine lv_iconst (v := nI 0) hx hb dX5_isContext_35 (by decide) ?_
        exact W.zret hx hb hr rfl (fun tZ ht hW => ⟨_, rfl, (bI_f (P := (1 ≤ k.toInt ∧ k.toInt ≤ 3) ∧ (k.toInt < 2 ∨ (0 ≤ b.toInt ∧ b.toInt < 7)) ∧ (k.toInt < 3 ∨ (0 ≤ a.toInt ∧ a.toInt < 7))) (by omega)).symm, ht⟩) (fun q h => by cases h) dX5_isContext_36
      · refine lv_iload_n hx hb dX5_isContext_19 rfl (lv_at hl 0 rfl) ?_
        refine lv_iconst (v := nI 3) hx hb dX5_isContext_20 (by decide) ?_
        refine ci_icmp_lt (X := k.toInt) (Y := ((3 : Nat) : Int)) (tgt := 31) hx hb rfl (sg_n (by omega)) dX5_isContext_21 rfl (fun h21 => ?_) (fun h21 => ?_)
        · refine lv_iconst (v := nI 1) hx hb dX5_isContext_31 (by decide) ?_
          refine lv_goto (tgt := 36) hx hb dX5_isContext_32 rfl ?_
          exact W.zret hx hb hr rfl (fun tZ ht hW => ⟨_, rfl, (bI_t (P := (1 ≤ k.toInt ∧ k.toInt ≤ 3) ∧ (k.toInt < 2 ∨ (0 ≤ b.toInt ∧ b.toInt < 7)) ∧ (k.toInt < 3 ∨ (0 ≤ a.toInt ∧ a.toInt < 7))) (by omega)).symm, ht⟩) (fun q h => by cases h) dX5_isContext_36
        · refine lv_iload_n hx hb dX5_isContext_24 rfl (lv_at hl 1 rfl) ?_
          refine sg_callRi (va_runS (As := [.int a]) (rest := []) ⟨hx, hb, hml, hown, hts⟩ (c_X5_isSymbol l D cI cO a) ⟨(sg_cB 1 hts mcX5_isSymbol ml_X5_90 in_X5 rfl rfl (by decide +kernel) ⟨Nat.le_of_ble_eq_true rfl, Nat.le_of_ble_eq_true rfl⟩), hts _ st_X5_isSymbol⟩ (sg_pS hK hP [] rfl) rfl rfl hl.1 rfl (lv_room (Nat.le_of_ble_eq_true rfl)) dX5_isContext_25 ⟨Nat.zero_le _, Nat.zero_le _⟩) ?_
          refine ci_beq (P := (0 ≤ a.toInt ∧ a.toInt < 7)) (tgt := 35) hx hb dX5_isContext_28 rfl (fun h28 => ?_) (fun h28 => ?_)
          · refine lv_iconst (v := nI 0) hx hb dX5_isContext_35 (by decide) ?_
            exact W.zret hx hb hr rfl (fun tZ ht hW => ⟨_, rfl, (bI_f (P := (1 ≤ k.toInt ∧ k.toInt ≤ 3) ∧ (k.toInt < 2 ∨ (0 ≤ b.toInt ∧ b.toInt < 7)) ∧ (k.toInt < 3 ∨ (0 ≤ a.toInt ∧ a.toInt < 7))) (by omega)).symm, ht⟩) (fun q h => by cases h) dX5_isContext_36
          · refine lv_iconst (v := nI 1) hx hb dX5_isContext_31 (by decide) ?_
            refine lv_goto (tgt := 36) hx hb dX5_isContext_32 rfl ?_
            exact W.zret hx hb hr rfl (fun tZ ht hW => ⟨_, rfl, (bI_t (P := (1 ≤ k.toInt ∧ k.toInt ≤ 3) ∧ (k.toInt < 2 ∨ (0 ≤ b.toInt ∧ b.toInt < 7)) ∧ (k.toInt < 3 ∨ (0 ≤ a.toInt ∧ a.toInt < 7))) (by omega)).symm, ht⟩) (fun q h => by cases h) dX5_isContext_36
set_option maxHeartbeats 4000000 in
set_option maxRecDepth 100000 in
theorem c_X5_isAsked (l : Launch) (D : va_G) (cI cO : ClassId) (a : Int32) (b : Int32) (w : Int32)  : Met l yX5_isAsked (.code yX5_isAsked cX5_isAsked 3 (some .boolean) :: sgT) ({ frames := 1, cells := 0, slots := 0, locals := 20 }) (sgPc D cI cO [.int a, .int b, .int w] []) (vp_Si (fun r => r = bI ((0 ≤ a.toInt ∧ a.toInt < 7) ∧ (0 ≤ b.toInt ∧ b.toInt < 7) ∧ 0 ≤ w.toInt ∧ w.toInt < 6))) 0 0 (fun _ => False) := by
  refine Met.ofW (cc := cX5_isAsked) (maxL := 3) (ret := (some .boolean)) (by decide) rfl ?_
  intro pZ eZ sZ mZ argsZ belowZ methZ cZ s₁ BZ hml hv
  obtain ⟨rfl, hP, hK⟩ := hv
  have hx := BZ.exec
  have hb := BZ.bytes
  have hr := BZ.returns
  have hts : ∀ wZ ∈ sgT, wZ.before ([.int a, .int b, .int w] : List Value).toArray sZ = true := fun wZ h => atoms_spec (ws := (.code yX5_isAsked cX5_isAsked 3 (some .boolean) :: sgT)) BZ.pre wZ (List.mem_cons_of_mem _ h)
  have hown : sZ.vm.findClass RX5 = some mZ.cls := findClass_of_methodNamed BZ.named
  have hlocks := BZ.notSynchronized
  have hl := lv_entry ([.int a, .int b, .int w]) (n := 3) (Nat.le_of_ble_eq_true rfl)
  rw [lg_entry_eq]
  generalize (lg_sl ([.int a, .int b, .int w]) ++ List.replicate (3 - (lg_sl ([.int a, .int b, .int w])).length) Slot.unset).toArray = ls at hl ⊢
  have hl : lv_has ls 3 [(0, .int a), (1, .int b), (2, .int w)] := hl
  refine lv_iload_n hx hb dX5_isAsked_0 rfl (lv_at hl 0 rfl) ?_
  refine sg_callRi (va_runS (As := [.int a]) (rest := []) ⟨hx, hb, hml, hown, hts⟩ (c_X5_isSymbol l D cI cO a) ⟨(sg_cB 1 hts mcX5_isSymbol ml_X5_90 in_X5 rfl rfl (by decide +kernel) ⟨Nat.le_of_ble_eq_true rfl, Nat.le_of_ble_eq_true rfl⟩), hts _ st_X5_isSymbol⟩ (sg_pS hK hP [] rfl) rfl rfl hl.1 rfl (lv_room (Nat.le_of_ble_eq_true rfl)) dX5_isAsked_1 ⟨Nat.zero_le _, Nat.zero_le _⟩) ?_
  refine ci_beq (P := (0 ≤ a.toInt ∧ a.toInt < 7)) (tgt := 28) hx hb dX5_isAsked_4 rfl (fun h4 => ?_) (fun h4 => ?_)
  · refine lv_iconst (v := nI 0) hx hb dX5_isAsked_28 (by decide) ?_
    exact W.zret hx hb hr rfl (fun tZ ht hW => ⟨_, rfl, (bI_f (P := (0 ≤ a.toInt ∧ a.toInt < 7) ∧ (0 ≤ b.toInt ∧ b.toInt < 7) ∧ 0 ≤ w.toInt ∧ w.toInt < 6) (by omega)).symm, ht⟩) (fun q h => by cases h) dX5_isAsked_29
  · refine lv_iload_n hx hb dX5_isAsked_7 rfl (lv_at hl 1 rfl) ?_
    refine sg_callRi (va_runS (As := [.int b]) (rest := []) ⟨hx, hb, hml, hown, hts⟩ (c_X5_isSymbol l D cI cO b) ⟨(sg_cB 1 hts mcX5_isSymbol ml_X5_90 in_X5 rfl rfl (by decide +kernel) ⟨Nat.le_of_ble_eq_true rfl, Nat.le_of_ble_eq_true rfl⟩), hts _ st_X5_isSymbol⟩ (sg_pS hK hP [] rfl) rfl rfl hl.1 rfl (lv_room (Nat.le_of_ble_eq_true rfl)) dX5_isAsked_8 ⟨Nat.zero_le _, Nat.zero_le _⟩) ?_
    refine ci_beq (P := (0 ≤ b.toInt ∧ b.toInt < 7)) (tgt := 28) hx hb dX5_isAsked_11 rfl (fun h11 => ?_) (fun h11 => ?_)
    · refine lv_iconst (v := nI 0) hx hb dX5_isAsked_28 (by decide) ?_
      exact W.zret hx hb hr rfl (fun tZ ht hW => ⟨_, rfl, (bI_f (P := (0 ≤ a.toInt ∧ a.toInt < 7) ∧ (0 ≤ b.toInt ∧ b.toInt < 7) ∧ 0 ≤ w.toInt ∧ w.toInt < 6) (by omega)).symm, ht⟩) (fun q h => by cases h) dX5_isAsked_29
    · refine lv_iload_n hx hb dX5_isAsked_14 rfl (lv_at hl 2 rfl) ?_
      refine ci_if_lt (X := w.toInt) (tgt := 28) hx hb rfl dX5_isAsked_15 rfl (fun h15 => ?_) (fun h15 => ?_)
      · refine lv_iconst (v := nI 0) hx hb dX5_isAsked_28 (by decide) ?_
        exact W.zret hx hb hr rfl (fun tZ ht hW => ⟨_, rfl, (bI_f (P := (0 ≤ a.toInt ∧ a.toInt < 7) ∧ (0 ≤ b.toInt ∧ b.toInt < 7) ∧ 0 ≤ w.toInt ∧ w.toInt < 6) (by omega)).symm, ht⟩) (fun q h => by cases h) dX5_isAsked_29
      · refine lv_iload_n hx hb dX5_isAsked_18 rfl (lv_at hl 2 rfl) ?_
        refine lv_bipush (v := nI 6) hx hb dX5_isAsked_19 (by decide) ?_
        refine ci_icmp_ge (X := w.toInt) (Y := ((6 : Nat) : Int)) (tgt := 28) hx hb rfl (sg_n (by omega)) dX5_isAsked_21 rfl (fun h21 => ?_) (fun h21 => ?_)
        · refine lv_iconst (v := nI 0) hx hb dX5_isAsked_28 (by decide) ?_
          exact W.zret hx hb hr rfl (fun tZ ht hW => ⟨_, rfl, (bI_f (P := (0 ≤ a.toInt ∧ a.toInt < 7) ∧ (0 ≤ b.toInt ∧ b.toInt < 7) ∧ 0 ≤ w.toInt ∧ w.toInt < 6) (by omega)).symm, ht⟩) (fun q h => by cases h) dX5_isAsked_29
        · refine lv_iconst (v := nI 1) hx hb dX5_isAsked_24 (by decide) ?_
          refine lv_goto (tgt := 29) hx hb dX5_isAsked_25 rfl ?_
          exact W.zret hx hb hr rfl (fun tZ ht hW => ⟨_, rfl, (bI_t (P := (0 ≤ a.toInt ∧ a.toInt < 7) ∧ (0 ≤ b.toInt ∧ b.toInt < 7) ∧ 0 ≤ w.toInt ∧ w.toInt < 6) (by omega)).symm, ht⟩) (fun q h => by cases h) dX5_isAsked_29
set_option maxHeartbeats 4000000 in
set_option maxRecDepth 100000 in
theorem c_X5_contextOf (l : Launch) (D : va_G) (cI cO : ClassId) (k : Nat) (x : Int32) (y : Int32) (a : Nat) (b : Nat) (hk : 1 ≤ k ∧ k ≤ 3) (hy : 2 ≤ k → y = nI b) (hz : 3 ≤ k → x = nI a) : Met l yX5_contextOf (.code yX5_contextOf cX5_contextOf 3 (some .int) :: sgT) ({ frames := 0, cells := 0, slots := 0, locals := 0 }) (sgPc D cI cO [.int (nI k), .int x, .int y] []) (vp_Si (fun r => r = nI (sgCx k a b))) 0 0 (fun _ => False) := by
  refine Met.ofW (cc := cX5_contextOf) (maxL := 3) (ret := (some .int)) (by decide) rfl ?_
  intro pZ eZ sZ mZ argsZ belowZ methZ cZ s₁ BZ hml hv
  obtain ⟨rfl, hP, hK⟩ := hv
  have hx := BZ.exec
  have hb := BZ.bytes
  have hr := BZ.returns
  have hts : ∀ wZ ∈ sgT, wZ.before ([.int (nI k), .int x, .int y] : List Value).toArray sZ = true := fun wZ h => atoms_spec (ws := (.code yX5_contextOf cX5_contextOf 3 (some .int) :: sgT)) BZ.pre wZ (List.mem_cons_of_mem _ h)
  have hown : sZ.vm.findClass RX5 = some mZ.cls := findClass_of_methodNamed BZ.named
  have hlocks := BZ.notSynchronized
  have hl := lv_entry ([.int (nI k), .int x, .int y]) (n := 3) (Nat.le_of_ble_eq_true rfl)
  rw [lg_entry_eq]
  generalize (lg_sl ([.int (nI k), .int x, .int y]) ++ List.replicate (3 - (lg_sl ([.int (nI k), .int x, .int y])).length) Slot.unset).toArray = ls at hl ⊢
  have hl : lv_has ls 3 [(0, .int (nI k)), (1, .int x), (2, .int y)] := hl
  refine lv_iload_n hx hb dX5_contextOf_0 rfl (lv_at hl 0 rfl) ?_
  refine lv_iconst (v := nI 1) hx hb dX5_contextOf_1 (by decide) ?_
  refine ci_icmp_ne (X := ((k : Nat) : Int)) (Y := ((1 : Nat) : Int)) (tgt := 7) hx hb (sg_n (by omega)) (sg_n (by omega)) dX5_contextOf_2 rfl (fun h2 => ?_) (fun h2 => ?_)
  · refine lv_iload_n hx hb dX5_contextOf_7 rfl (lv_at hl 0 rfl) ?_
    refine lv_iconst (v := nI 2) hx hb dX5_contextOf_8 (by decide) ?_
    refine ci_icmp_ne (X := ((k : Nat) : Int)) (Y := ((2 : Nat) : Int)) (tgt := 16) hx hb (sg_n (by omega)) (sg_n (by omega)) dX5_contextOf_9 rfl (fun h9 => ?_) (fun h9 => ?_)
    · refine lv_iload_n hx hb dX5_contextOf_16 rfl (lv_at hl 1 rfl) ?_
      refine sw_i (y := nI a) (hz (by omega)) ?_
      refine lv_bipush (v := nI 7) hx hb dX5_contextOf_17 (by decide) ?_
      refine n_imul hx hb dX5_contextOf_19 ?_
      refine lv_iload_n hx hb dX5_contextOf_20 rfl (lv_at hl 2 rfl) ?_
      refine sw_i (y := nI b) (hy (by omega)) ?_
      refine n_iadd hx hb dX5_contextOf_21 ?_
      exact W.iret hx hb hr (fun tZ ht hW => ⟨_, rfl, (by unfold sgCx; first | rw [if_pos (by omega)] | rw [if_neg (by omega), if_pos (by omega)] | rw [if_neg (by omega), if_neg (by omega)]), ht⟩) (fun q h => by cases h) dX5_contextOf_22
    · refine lv_iload_n hx hb dX5_contextOf_12 rfl (lv_at hl 2 rfl) ?_
      refine sw_i (y := nI b) (hy (by omega)) ?_
      refine lv_goto (tgt := 22) hx hb dX5_contextOf_13 rfl ?_
      exact W.iret hx hb hr (fun tZ ht hW => ⟨_, rfl, (by unfold sgCx; first | rw [if_pos (by omega)] | rw [if_neg (by omega), if_pos (by omega)] | rw [if_neg (by omega), if_neg (by omega)]), ht⟩) (fun q h => by cases h) dX5_contextOf_22
  · refine lv_iconst (v := nI 0) hx hb dX5_contextOf_5 (by decide) ?_
    exact W.iret hx hb hr (fun tZ ht hW => ⟨_, rfl, (by unfold sgCx; first | rw [if_pos (by omega)] | rw [if_neg (by omega), if_pos (by omega)] | rw [if_neg (by omega), if_neg (by omega)]), ht⟩) (fun q h => by cases h) dX5_contextOf_6
set_option maxHeartbeats 4000000 in
set_option maxRecDepth 100000 in
theorem c_X5_rowsOf (l : Launch) (D : va_G) (cI cO : ClassId) (k : Nat) (hk : 1 ≤ k ∧ k ≤ 3) : Met l yX5_rowsOf (.code yX5_rowsOf cX5_rowsOf 1 (some .int) :: sgT) ({ frames := 0, cells := 0, slots := 0, locals := 0 }) (sgPc D cI cO [.int (nI k)] []) (vp_Si (fun r => r = nI (sgAll k))) 0 0 (fun _ => False) := by
  refine Met.ofW (cc := cX5_rowsOf) (maxL := 1) (ret := (some .int)) (by decide) rfl ?_
  intro pZ eZ sZ mZ argsZ belowZ methZ cZ s₁ BZ hml hv
  obtain ⟨rfl, hP, hK⟩ := hv
  have hx := BZ.exec
  have hb := BZ.bytes
  have hr := BZ.returns
  have hts : ∀ wZ ∈ sgT, wZ.before ([.int (nI k)] : List Value).toArray sZ = true := fun wZ h => atoms_spec (ws := (.code yX5_rowsOf cX5_rowsOf 1 (some .int) :: sgT)) BZ.pre wZ (List.mem_cons_of_mem _ h)
  have hown : sZ.vm.findClass RX5 = some mZ.cls := findClass_of_methodNamed BZ.named
  have hlocks := BZ.notSynchronized
  have hl := lv_entry ([.int (nI k)]) (n := 1) (Nat.le_of_ble_eq_true rfl)
  rw [lg_entry_eq]
  generalize (lg_sl ([.int (nI k)]) ++ List.replicate (1 - (lg_sl ([.int (nI k)])).length) Slot.unset).toArray = ls at hl ⊢
  have hl : lv_has ls 1 [(0, .int (nI k))] := hl
  refine lv_iload_n hx hb dX5_rowsOf_0 rfl (lv_at hl 0 rfl) ?_
  refine lv_iconst (v := nI 1) hx hb dX5_rowsOf_1 (by decide) ?_
  refine ci_icmp_ne (X := ((k : Nat) : Int)) (Y := ((1 : Nat) : Int)) (tgt := 8) hx hb (sg_n (by omega)) (sg_n (by omega)) dX5_rowsOf_2 rfl (fun h2 => ?_) (fun h2 => ?_)
  · refine lv_iload_n hx hb dX5_rowsOf_8 rfl (lv_at hl 0 rfl) ?_
    refine lv_iconst (v := nI 2) hx hb dX5_rowsOf_9 (by decide) ?_
    refine ci_icmp_ne (X := ((k : Nat) : Int)) (Y := ((2 : Nat) : Int)) (tgt := 18) hx hb (sg_n (by omega)) (sg_n (by omega)) dX5_rowsOf_10 rfl (fun h10 => ?_) (fun h10 => ?_)
    · refine lv_sipush (v := nI 343) hx hb dX5_rowsOf_18 (by decide) ?_
      exact W.iret hx hb hr (fun tZ ht hW => ⟨_, rfl, (by unfold sgAll; first | rw [if_pos (by omega)] | rw [if_neg (by omega), if_pos (by omega)] | rw [if_neg (by omega), if_neg (by omega)]), ht⟩) (fun q h => by cases h) dX5_rowsOf_21
    · refine lv_bipush (v := nI 49) hx hb dX5_rowsOf_13 (by decide) ?_
      refine lv_goto (tgt := 21) hx hb dX5_rowsOf_15 rfl ?_
      exact W.iret hx hb hr (fun tZ ht hW => ⟨_, rfl, (by unfold sgAll; first | rw [if_pos (by omega)] | rw [if_neg (by omega), if_pos (by omega)] | rw [if_neg (by omega), if_neg (by omega)]), ht⟩) (fun q h => by cases h) dX5_rowsOf_21
  · refine lv_bipush (v := nI 7) hx hb dX5_rowsOf_5 (by decide) ?_
    exact W.iret hx hb hr (fun tZ ht hW => ⟨_, rfl, (by unfold sgAll; first | rw [if_pos (by omega)] | rw [if_neg (by omega), if_pos (by omega)] | rw [if_neg (by omega), if_neg (by omega)]), ht⟩) (fun q h => by cases h) dX5_rowsOf_7
set_option maxHeartbeats 4000000 in
set_option maxRecDepth 100000 in
theorem c_X1_addEvent (l : Launch) (D : va_G) (cI cO : ClassId) (q0 : Nat) (q1 : Nat) (q2 : Nat) (q3 : Nat) (ord : Nat) (f1 : Nat → Int32) (f2 : Nat → Int32) (f3 : Nat → Int32) (a : Nat) (b : Nat) (w : Nat) (dl : Int32) (ha : a < 7) (hbb : b < 7) (hw : w < 7) : Met l yX1_addEvent (.code yX1_addEvent cX1_addEvent 5 none :: sgT) ({ frames := 1, cells := 0, slots := 0, locals := 22 }) (sgWc D cI cO [.ref q0, .int (nI a), .int (nI b), .int (nI w), .int dl] [(q0, .inr (1, [.ref q1, .ref q2, .ref q3, .int (nI ord)])), (q1, .inl (cI, 7, .inl f1)), (q2, .inl (cI, 49, .inl f2)), (q3, .inl (cI, 343, .inl f3))]) (va_Qv (fun uZ : Unit => True) (fun uZ t => va_P D vwCl [(q0, .inr (1, [.ref q1, .ref q2, .ref q3, .int (nI ord)])), (q1, .inl (cI, 7, .inl (upd f1 w (f1 w + dl)))), (q2, .inl (cI, 49, .inl (upd f2 (b * 7 + w) (f2 (b * 7 + w) + dl)))), (q3, .inl (cI, 343, .inl (upd f3 ((a * 7 + b) * 7 + w) (f3 ((a * 7 + b) * 7 + w) + dl))))] t.heap) (xA [(q0, .inr (1, [.ref q1, .ref q2, .ref q3, .int (nI ord)])), (q1, .inl (cI, 7, .inl f1)), (q2, .inl (cI, 49, .inl f2)), (q3, .inl (cI, 343, .inl f3))])) 0 0 (xA [(q0, .inr (1, [.ref q1, .ref q2, .ref q3, .int (nI ord)])), (q1, .inl (cI, 7, .inl f1)), (q2, .inl (cI, 49, .inl f2)), (q3, .inl (cI, 343, .inl f3))]) := by
  refine Met.ofW (cc := cX1_addEvent) (maxL := 5) (ret := none) (by decide) rfl ?_
  intro pZ eZ sZ mZ argsZ belowZ methZ cZ s₁ BZ hml hv
  obtain ⟨rfl, hP, hK, hD0⟩ := hv
  have hx := BZ.exec
  have hb := BZ.bytes
  have hr := BZ.returns
  have hts : ∀ wZ ∈ sgT, wZ.before ([.ref q0, .int (nI a), .int (nI b), .int (nI w), .int dl] : List Value).toArray sZ = true := fun wZ h => atoms_spec (ws := (.code yX1_addEvent cX1_addEvent 5 none :: sgT)) BZ.pre wZ (List.mem_cons_of_mem _ h)
  have hown : sZ.vm.findClass RX1 = some mZ.cls := findClass_of_methodNamed BZ.named
  have hlocks := BZ.notSynchronized
  have hD : va_D (xA [(q0, .inr (1, [.ref q1, .ref q2, .ref q3, .int (nI ord)])), (q1, .inl (cI, 7, .inl f1)), (q2, .inl (cI, 49, .inl f2)), (q3, .inl (cI, 343, .inl f3))]) [(q0, .inr (1, [.ref q1, .ref q2, .ref q3, .int (nI ord)])), (q1, .inl (cI, 7, .inl f1)), (q2, .inl (cI, 49, .inl f2)), (q3, .inl (cI, 343, .inl f3))] := ⟨hD0.1, fun k q h => ⟨k, q.2, h⟩⟩
  generalize hAe : xA [(q0, .inr (1, [.ref q1, .ref q2, .ref q3, .int (nI ord)])), (q1, .inl (cI, 7, .inl f1)), (q2, .inl (cI, 49, .inl f2)), (q3, .inl (cI, 343, .inl f3))] = A at hD ⊢
  have hS : va_S A sZ.heap sZ.heap [] := va_S.rf
  have hl := lv_entry ([.ref q0, .int (nI a), .int (nI b), .int (nI w), .int dl]) (n := 5) (Nat.le_of_ble_eq_true rfl)
  rw [lg_entry_eq]
  generalize (lg_sl ([.ref q0, .int (nI a), .int (nI b), .int (nI w), .int dl]) ++ List.replicate (5 - (lg_sl ([.ref q0, .int (nI a), .int (nI b), .int (nI w), .int dl])).length) Slot.unset).toArray = ls at hl ⊢
  have hl : lv_has ls 5 [(0, .ref q0), (1, .int (nI a)), (2, .int (nI b)), (3, .int (nI w)), (4, .int dl)] := hl
  have hP : va_P D vwCl [(q0, .inr (1, [.ref q1, .ref q2, .ref q3, .int (nI ord)])), (q1, .inl (cI, 7, .inl f1)), (q2, .inl (cI, 49, .inl f2)), (q3, .inl (cI, 343, .inl f3))] sZ.heap := hP
  refine lv_aload_n hx hb dX1_addEvent_0 rfl (lv_at hl 0 rfl) ?_
  refine va_get (D := D) (ci := 1) (v := .ref q1) (C := RX1) (T := TX1) (N := 4) hx hb hts hinX1 hown hK.1 hP 0 rfl rfl 0 (by decide) (hts _ fl_X1_9) (fun _ h9 => h9) rfl dX1_addEvent_1 ?_
  refine lv_iload_n hx hb dX1_addEvent_4 rfl (lv_at hl 3 rfl) ?_
  refine lv_dup2_11 hx hb dX1_addEvent_5 rfl rfl ?_
  refine n_iald (v := f1 w) hx hb hK.1 hP 1 0 rfl rfl (by omega) (by omega) rfl dX1_addEvent_6 ?_
  refine lv_iload hx hb dX1_addEvent_7 (lv_at hl 4 rfl) ?_
  refine lv_iadd hx hb dX1_addEvent_9 ?_
  refine n_iast hx hb hK.1 hP hD hS 1 0 rfl rfl (by omega) (by omega) dX1_addEvent_10 (fun H locs hP hD hS => ?_)
  have hP : va_P D vwCl [(q0, .inr (1, [.ref q1, .ref q2, .ref q3, .int (nI ord)])), (q1, .inl (cI, 7, .inl (upd f1 w ((f1 w) + dl)))), (q2, .inl (cI, 49, .inl f2)), (q3, .inl (cI, 343, .inl f3))] H := hP
  have hD : va_D A [(q0, .inr (1, [.ref q1, .ref q2, .ref q3, .int (nI ord)])), (q1, .inl (cI, 7, .inl (upd f1 w ((f1 w) + dl)))), (q2, .inl (cI, 49, .inl f2)), (q3, .inl (cI, 343, .inl f3))] := hD
  refine lv_aload_n hx hb dX1_addEvent_11 rfl (lv_at hl 0 rfl) ?_
  refine va_get (D := D) (ci := 1) (v := .ref q2) (C := RX1) (T := TX1) (N := 4) hx hb hts hinX1 hown hK.1 hP 0 rfl rfl 1 (by decide) (hts _ fl_X1_15) (fun _ h9 => h9) rfl dX1_addEvent_12 ?_
  refine lv_iconst (v := nI 2) hx hb dX1_addEvent_15 (by decide) ?_
  refine lv_iload_n hx hb dX1_addEvent_16 rfl (lv_at hl 1 rfl) ?_
  refine lv_iload_n hx hb dX1_addEvent_17 rfl (lv_at hl 2 rfl) ?_
  refine sg_callRi (va_runSN (As := [.int (nI 2), .int (nI a), .int (nI b)]) (rest := [.ref q2]) ⟨hx, hb, hml, hown, hts⟩ (c_X5_contextOf l D cI cO 2 (nI a) (nI b) a b (by omega) (fun _ => rfl) (fun _ => rfl)) ⟨(sg_cN 3 hts mcX5_contextOf hK.2.2.1.1 in_X5 rfl rfl (by decide +kernel) ⟨Nat.le_of_ble_eq_true rfl, Nat.le_of_ble_eq_true rfl⟩), hts _ st_X5_contextOf, trivial⟩ (sg_pS hK hP [] rfl) rfl rfl hl.1 rfl (lv_room (Nat.le_of_ble_eq_true rfl)) dX1_addEvent_18 ⟨Nat.zero_le _, Nat.zero_le _⟩) ?_
  refine sw_i (y := nI b) rfl ?_
  refine lv_bipush (v := nI 7) hx hb dX1_addEvent_21 (by decide) ?_
  refine n_imul hx hb dX1_addEvent_23 ?_
  refine lv_iload_n hx hb dX1_addEvent_24 rfl (lv_at hl 3 rfl) ?_
  refine n_iadd hx hb dX1_addEvent_25 ?_
  refine lv_dup2_11 hx hb dX1_addEvent_26 rfl rfl ?_
  refine n_iald (v := f2 ((b * 7) + w)) hx hb hK.1 hP 2 0 rfl rfl (by omega) (by omega) rfl dX1_addEvent_27 ?_
  refine lv_iload hx hb dX1_addEvent_28 (lv_at hl 4 rfl) ?_
  refine lv_iadd hx hb dX1_addEvent_30 ?_
  refine n_iast hx hb hK.1 hP hD hS 2 0 rfl rfl (by omega) (by omega) dX1_addEvent_31 (fun H locs hP hD hS => ?_)
  have hP : va_P D vwCl [(q0, .inr (1, [.ref q1, .ref q2, .ref q3, .int (nI ord)])), (q1, .inl (cI, 7, .inl (upd f1 w ((f1 w) + dl)))), (q2, .inl (cI, 49, .inl (upd f2 ((b * 7) + w) ((f2 ((b * 7) + w)) + dl)))), (q3, .inl (cI, 343, .inl f3))] H := hP
  have hD : va_D A [(q0, .inr (1, [.ref q1, .ref q2, .ref q3, .int (nI ord)])), (q1, .inl (cI, 7, .inl (upd f1 w ((f1 w) + dl)))), (q2, .inl (cI, 49, .inl (upd f2 ((b * 7) + w) ((f2 ((b * 7) + w)) + dl)))), (q3, .inl (cI, 343, .inl f3))] := hD
  refine lv_aload_n hx hb dX1_addEvent_32 rfl (lv_at hl 0 rfl) ?_
  refine va_get (D := D) (ci := 1) (v := .ref q3) (C := RX1) (T := TX1) (N := 4) hx hb hts hinX1 hown hK.1 hP 0 rfl rfl 2 (by decide) (hts _ fl_X1_18) (fun _ h9 => h9) rfl dX1_addEvent_33 ?_
  refine lv_iconst (v := nI 3) hx hb dX1_addEvent_36 (by decide) ?_
  refine lv_iload_n hx hb dX1_addEvent_37 rfl (lv_at hl 1 rfl) ?_
  refine lv_iload_n hx hb dX1_addEvent_38 rfl (lv_at hl 2 rfl) ?_
  refine sg_callRi (va_runSN (As := [.int (nI 3), .int (nI a), .int (nI b)]) (rest := [.ref q3]) ⟨hx, hb, hml, hown, hts⟩ (c_X5_contextOf l D cI cO 3 (nI a) (nI b) a b (by omega) (fun _ => rfl) (fun _ => rfl)) ⟨(sg_cN 3 hts mcX5_contextOf hK.2.2.1.1 in_X5 rfl rfl (by decide +kernel) ⟨Nat.le_of_ble_eq_true rfl, Nat.le_of_ble_eq_true rfl⟩), hts _ st_X5_contextOf, trivial⟩ (sg_pS hK hP [] rfl) rfl rfl hl.1 rfl (lv_room (Nat.le_of_ble_eq_true rfl)) dX1_addEvent_39 ⟨Nat.zero_le _, Nat.zero_le _⟩) ?_
  refine sw_i (y := nI (a * 7 + b)) rfl ?_
  refine lv_bipush (v := nI 7) hx hb dX1_addEvent_42 (by decide) ?_
  refine n_imul hx hb dX1_addEvent_44 ?_
  refine lv_iload_n hx hb dX1_addEvent_45 rfl (lv_at hl 3 rfl) ?_
  refine n_iadd hx hb dX1_addEvent_46 ?_
  refine lv_dup2_11 hx hb dX1_addEvent_47 rfl rfl ?_
  refine n_iald (v := f3 (((a * 7 + b) * 7) + w)) hx hb hK.1 hP 3 0 rfl rfl (by omega) (by omega) rfl dX1_addEvent_48 ?_
  refine lv_iload hx hb dX1_addEvent_49 (lv_at hl 4 rfl) ?_
  refine lv_iadd hx hb dX1_addEvent_51 ?_
  refine n_iast hx hb hK.1 hP hD hS 3 0 rfl rfl (by omega) (by omega) dX1_addEvent_52 (fun H locs hP hD hS => ?_)
  have hP : va_P D vwCl [(q0, .inr (1, [.ref q1, .ref q2, .ref q3, .int (nI ord)])), (q1, .inl (cI, 7, .inl (upd f1 w ((f1 w) + dl)))), (q2, .inl (cI, 49, .inl (upd f2 ((b * 7) + w) ((f2 ((b * 7) + w)) + dl)))), (q3, .inl (cI, 343, .inl (upd f3 (((a * 7 + b) * 7) + w) ((f3 (((a * 7 + b) * 7) + w)) + dl))))] H := hP
  have hD : va_D A [(q0, .inr (1, [.ref q1, .ref q2, .ref q3, .int (nI ord)])), (q1, .inl (cI, 7, .inl (upd f1 w ((f1 w) + dl)))), (q2, .inl (cI, 49, .inl (upd f2 ((b * 7) + w) ((f2 ((b * 7) + w)) + dl)))), (q3, .inl (cI, 343, .inl (upd f3 (((a * 7 + b) * 7) + w) ((f3 (((a * 7 + b) * 7) + w)) + dl))))] := hD
  exact W.vret hx hb hr (fun tZ ht hW => ⟨⟨(), rfl, trivial, by show va_P D vwCl _ tZ.heap; rw [ht]; exact hP⟩, hS.F ht⟩) hS.2.2 dX1_addEvent_53
set_option maxHeartbeats 4000000 in
set_option maxRecDepth 100000 in
theorem c_X1_rawOf (l : Launch) (D : va_G) (cI cO : ClassId) (q0 : Nat) (q1 : Nat) (q2 : Nat) (q3 : Nat) (ord : Nat) (f1 : Nat → Int32) (f2 : Nat → Int32) (f3 : Nat → Int32) (rw : Nat → Nat → Nat → Nat → Nat) (k : Nat) (row : Nat) (hH : sgHold rw f1 f2 f3) (hk : 1 ≤ k ∧ k ≤ 3) (hrow : row < sgAll k) : Met l yX1_rawOf (.code yX1_rawOf cX1_rawOf 3 (some .int) :: sgT) ({ frames := 0, cells := 0, slots := 0, locals := 0 }) (sgPc D cI cO [.ref q0, .int (nI k), .int (nI row)] [(q0, .inr (1, [.ref q1, .ref q2, .ref q3, .int (nI ord)])), (q1, .inl (cI, 7, .inl f1)), (q2, .inl (cI, 49, .inl f2)), (q3, .inl (cI, 343, .inl f3))]) (vp_Si (fun r => r = nI (rw k (row / 49) (row / 7 % 7) (row % 7)))) 0 0 (fun _ => False) := by
  refine Met.ofW (cc := cX1_rawOf) (maxL := 3) (ret := (some .int)) (by decide) rfl ?_
  intro pZ eZ sZ mZ argsZ belowZ methZ cZ s₁ BZ hml hv
  obtain ⟨rfl, hP, hK⟩ := hv
  have hx := BZ.exec
  have hb := BZ.bytes
  have hr := BZ.returns
  have hts : ∀ wZ ∈ sgT, wZ.before ([.ref q0, .int (nI k), .int (nI row)] : List Value).toArray sZ = true := fun wZ h => atoms_spec (ws := (.code yX1_rawOf cX1_rawOf 3 (some .int) :: sgT)) BZ.pre wZ (List.mem_cons_of_mem _ h)
  have hown : sZ.vm.findClass RX1 = some mZ.cls := findClass_of_methodNamed BZ.named
  have hlocks := BZ.notSynchronized
  have hl := lv_entry ([.ref q0, .int (nI k), .int (nI row)]) (n := 3) (Nat.le_of_ble_eq_true rfl)
  rw [lg_entry_eq]
  generalize (lg_sl ([.ref q0, .int (nI k), .int (nI row)]) ++ List.replicate (3 - (lg_sl ([.ref q0, .int (nI k), .int (nI row)])).length) Slot.unset).toArray = ls at hl ⊢
  have hl : lv_has ls 3 [(0, .ref q0), (1, .int (nI k)), (2, .int (nI row))] := hl
  refine lv_iload_n hx hb dX1_rawOf_0 rfl (lv_at hl 1 rfl) ?_
  refine lv_iconst (v := nI 1) hx hb dX1_rawOf_1 (by decide) ?_
  refine ci_icmp_ne (X := ((k : Nat) : Int)) (Y := ((1 : Nat) : Int)) (tgt := 12) hx hb (sg_n (by omega)) (sg_n (by omega)) dX1_rawOf_2 rfl (fun h2 => ?_) (fun h2 => ?_)
  · refine lv_iload_n hx hb dX1_rawOf_12 rfl (lv_at hl 1 rfl) ?_
    refine lv_iconst (v := nI 2) hx hb dX1_rawOf_13 (by decide) ?_
    refine ci_icmp_ne (X := ((k : Nat) : Int)) (Y := ((2 : Nat) : Int)) (tgt := 26) hx hb (sg_n (by omega)) (sg_n (by omega)) dX1_rawOf_14 rfl (fun h14 => ?_) (fun h14 => ?_)
    · obtain rfl : k = 3 := by omega
      have hrow : row < 343 := hrow
      refine lv_aload_n hx hb dX1_rawOf_26 rfl (lv_at hl 0 rfl) ?_
      refine va_get (D := D) (ci := 1) (v := .ref q3) (C := RX1) (T := TX1) (N := 4) hx hb hts hinX1 hown hK.1 hP 0 rfl rfl 2 (by decide) (hts _ fl_X1_18) (fun _ h9 => h9) rfl dX1_rawOf_27 ?_
      refine lv_iload_n hx hb dX1_rawOf_30 rfl (lv_at hl 2 rfl) ?_
      refine n_iald (v := nI (rw 3 (row / 49) (row / 7 % 7) (row % 7))) hx hb hK.1 hP 3 0 rfl rfl (by omega) (by omega) (hH.2.2 row hrow) dX1_rawOf_31 ?_
      exact W.iret hx hb hr (fun tZ ht hW => ⟨_, rfl, rfl, ht⟩) (fun q h => by cases h) dX1_rawOf_32
    · obtain rfl : k = 2 := by omega
      have hrow : row < 49 := hrow
      refine lv_aload_n hx hb dX1_rawOf_17 rfl (lv_at hl 0 rfl) ?_
      refine va_get (D := D) (ci := 1) (v := .ref q2) (C := RX1) (T := TX1) (N := 4) hx hb hts hinX1 hown hK.1 hP 0 rfl rfl 1 (by decide) (hts _ fl_X1_15) (fun _ h9 => h9) rfl dX1_rawOf_18 ?_
      refine lv_iload_n hx hb dX1_rawOf_21 rfl (lv_at hl 2 rfl) ?_
      refine n_iald (v := nI (rw 2 (row / 49) (row / 7 % 7) (row % 7))) hx hb hK.1 hP 2 0 rfl rfl (by omega) (by omega) (hH.2.1 row hrow) dX1_rawOf_22 ?_
      refine lv_goto (tgt := 32) hx hb dX1_rawOf_23 rfl ?_
      exact W.iret hx hb hr (fun tZ ht hW => ⟨_, rfl, rfl, ht⟩) (fun q h => by cases h) dX1_rawOf_32
  · obtain rfl : k = 1 := by omega
    have hrow : row < 7 := hrow
    refine lv_aload_n hx hb dX1_rawOf_5 rfl (lv_at hl 0 rfl) ?_
    refine va_get (D := D) (ci := 1) (v := .ref q1) (C := RX1) (T := TX1) (N := 4) hx hb hts hinX1 hown hK.1 hP 0 rfl rfl 0 (by decide) (hts _ fl_X1_9) (fun _ h9 => h9) rfl dX1_rawOf_6 ?_
    refine lv_iload_n hx hb dX1_rawOf_9 rfl (lv_at hl 2 rfl) ?_
    refine n_iald (v := nI (rw 1 (row / 49) (row / 7 % 7) (row % 7))) hx hb hK.1 hP 1 0 rfl rfl (by omega) (by omega) (hH.1 row hrow) dX1_rawOf_10 ?_
    exact W.iret hx hb hr (fun tZ ht hW => ⟨_, rfl, rfl, ht⟩) (fun q h => by cases h) dX1_rawOf_11
set_option maxHeartbeats 4000000 in
set_option maxRecDepth 100000 in
theorem c_X1_symbolsBefore (l : Launch) (D : va_G) (cI cO : ClassId) (q0 : Nat) (q1 : Nat) (q2 : Nat) (q3 : Nat) (ord : Nat) (f1 : Nat → Int32) (f2 : Nat → Int32) (f3 : Nat → Int32) (rw : Nat → Nat → Nat → Nat → Nat) (k : Nat) (row : Nat) (hH : sgHold rw f1 f2 f3) (hB : sgBd rw) (hk : 1 ≤ k ∧ k < 3) (hrow : row < sgAll k) : Met l yX1_symbolsBefore (.code yX1_symbolsBefore cX1_symbolsBefore 5 (some .int) :: sgT) ({ frames := 1, cells := 0, slots := 0, locals := 22 }) (sgPc D cI cO [.ref q0, .int (nI k), .int (nI row)] [(q0, .inr (1, [.ref q1, .ref q2, .ref q3, .int (nI ord)])), (q1, .inl (cI, 7, .inl f1)), (q2, .inl (cI, 49, .inl f2)), (q3, .inl (cI, 343, .inl f3))]) (vp_Si (fun r => r = nI (sgBef rw k (row / 7 % 7) (row % 7) 7))) 0 0 (fun _ => False) := by
  refine Met.ofW (cc := cX1_symbolsBefore) (maxL := 5) (ret := (some .int)) (by decide) rfl ?_
  intro pZ eZ sZ mZ argsZ belowZ methZ cZ s₁ BZ hml hv
  obtain ⟨rfl, hP, hK⟩ := hv
  have hx := BZ.exec
  have hb := BZ.bytes
  have hr := BZ.returns
  have hts : ∀ wZ ∈ sgT, wZ.before ([.ref q0, .int (nI k), .int (nI row)] : List Value).toArray sZ = true := fun wZ h => atoms_spec (ws := (.code yX1_symbolsBefore cX1_symbolsBefore 5 (some .int) :: sgT)) BZ.pre wZ (List.mem_cons_of_mem _ h)
  have hown : sZ.vm.findClass RX1 = some mZ.cls := findClass_of_methodNamed BZ.named
  have hlocks := BZ.notSynchronized
  have hl := lv_entry ([.ref q0, .int (nI k), .int (nI row)]) (n := 5) (Nat.le_of_ble_eq_true rfl)
  rw [lg_entry_eq]
  generalize (lg_sl ([.ref q0, .int (nI k), .int (nI row)]) ++ List.replicate (5 - (lg_sl ([.ref q0, .int (nI k), .int (nI row)])).length) Slot.unset).toArray = ls at hl ⊢
  have hl : lv_has ls 5 [(0, .ref q0), (1, .int (nI k)), (2, .int (nI row))] := hl
  refine lv_iconst (v := nI 0) hx hb dX1_symbolsBefore_0 (by decide) ?_
  refine lv_istore_n hx hb dX1_symbolsBefore_1 rfl hl (by decide) rfl (fun ls hl => ?_)
  have hl : lv_has ls 5 [(3, .int (nI 0)), (0, .ref q0), (1, .int (nI k)), (2, .int (nI row))] := hl
  refine lv_iconst (v := nI 0) hx hb dX1_symbolsBefore_2 (by decide) ?_
  refine lv_istore hx hb dX1_symbolsBefore_3 hl (by decide) rfl (fun ls hl => ?_)
  have hl : lv_has ls 5 [(4, .int (nI 0)), (3, .int (nI 0)), (0, .ref q0), (1, .int (nI k)), (2, .int (nI row))] := hl
  refine sw_loopR (I := fun kM ls => ∃ (s : Nat) (n : Nat), kM = 7 - s ∧ lv_has ls 5 [(4, .int (nI s)), (3, .int (nI n)), (0, .ref q0), (1, .int (nI k)), (2, .int (nI row))] ∧ (s ≤ 7) ∧ (n = sgBef rw k (row / 7 % 7) (row % 7) s)) ?_ _ ⟨0, 0, rfl, hl, by omega, rfl⟩
  intro kM ls hI ih5
  obtain ⟨s, n, hkM, hl, hi, hn⟩ := hI
  refine lv_iload hx hb dX1_symbolsBefore_5 (lv_at hl 0 rfl) ?_
  refine lv_bipush (v := nI 7) hx hb dX1_symbolsBefore_7 (by decide) ?_
  refine ci_icmp_ge (X := ((s : Nat) : Int)) (Y := ((7 : Nat) : Int)) (tgt := 40) hx hb (sg_n (by omega)) (sg_n (by omega)) dX1_symbolsBefore_9 rfl (fun h9 => ?_) (fun h9 => ?_)
  · refine lv_iload_n hx hb dX1_symbolsBefore_40 rfl (lv_at hl 1 rfl) ?_
    exact W.iret hx hb hr (fun tZ ht hW => ⟨_, rfl, (by rw [hn]; congr 2; omega), ht⟩) (fun q h => by cases h) dX1_symbolsBefore_41
  · refine lv_aload_n hx hb dX1_symbolsBefore_12 rfl (lv_at hl 2 rfl) ?_
    refine lv_iload_n hx hb dX1_symbolsBefore_13 rfl (lv_at hl 3 rfl) ?_
    refine lv_iconst (v := nI 1) hx hb dX1_symbolsBefore_14 (by decide) ?_
    refine n_iadd hx hb dX1_symbolsBefore_15 ?_
    refine lv_iload hx hb dX1_symbolsBefore_16 (lv_at hl 0 rfl) ?_
    refine lv_iload_n hx hb dX1_symbolsBefore_18 rfl (lv_at hl 3 rfl) ?_
    refine sg_callRi (va_runSN (As := [.int (nI k)]) (rest := [.int (nI s), .int (nI (k + 1)), .ref q0]) ⟨hx, hb, hml, hown, hts⟩ (c_X5_rowsOf l D cI cO k (by omega)) ⟨(sg_cN 1 hts mcX5_rowsOf hK.2.2.1.2.1 in_X5 rfl rfl (by decide +kernel) ⟨Nat.le_of_ble_eq_true rfl, Nat.le_of_ble_eq_true rfl⟩), hts _ st_X5_rowsOf, trivial⟩ (sg_pS hK hP [] rfl) rfl rfl hl.1 rfl (lv_room (Nat.le_of_ble_eq_true rfl)) dX1_symbolsBefore_19 ⟨Nat.zero_le _, Nat.zero_le _⟩) ?_
    refine n_imul hx hb dX1_symbolsBefore_22 ?_
    refine lv_iload_n hx hb dX1_symbolsBefore_23 rfl (lv_at hl 4 rfl) ?_
    refine n_iadd hx hb dX1_symbolsBefore_24 ?_
    refine sg_callRi (va_runV (As := [.int (nI (k + 1)), .int (nI ((s * (sgAll k)) + row))]) (rest := []) (C := RX1) ⟨hx, hb, hml, hown, hts⟩ (c_X1_rawOf l D cI cO q0 q1 q2 q3 ord f1 f2 f3 rw (k + 1) ((s * (sgAll k)) + row) hH (by omega) (sgAll_step hk.1 hk.2 (by omega) hrow)) ⟨(sg_cB 2 hts mcX1_rawOf ml_X1_29 in_X1 rfl rfl (by decide +kernel) ⟨Nat.le_of_ble_eq_true rfl, Nat.le_of_ble_eq_true rfl⟩), hts _ im_X1_rawOf, hts _ se_X1_rawOf⟩ (sg_pV (q0 := 0) hK hP [0, 1, 2, 3] rfl rfl rfl rfl) rfl rfl hl.1 rfl (lv_room (Nat.le_of_ble_eq_true rfl)) dX1_symbolsBefore_25 ⟨Nat.zero_le _, Nat.zero_le _⟩) ?_
    refine sw_i (y := nI (if k = 1 then rw 2 0 s (row % 7) else rw 3 s (row / 7 % 7) (row % 7))) (congrArg nI (sgBef_row rw hk.1 hk.2 (by omega) hrow)) ?_
    have hv := sgBef_v hB k s (row % 7) (row / 7 % 7)
    refine ci_if_le (X := ((if k = 1 then rw 2 0 s (row % 7) else rw 3 s (row / 7 % 7) (row % 7) : Nat) : Int)) (tgt := 34) hx hb (sg_n (by omega)) dX1_symbolsBefore_28 rfl (fun h28 => ?_) (fun h28 => ?_)
    · refine lv_iinc (v := nI (s + 1)) hx hb dX1_symbolsBefore_34 hl (k := 0) rfl (sg_inc _) (by decide) rfl (fun ls hl => ?_)
      have hl : lv_has ls 5 [(4, .int (nI (s + 1))), (3, .int (nI n)), (0, .ref q0), (1, .int (nI k)), (2, .int (nI row))] := hl
      refine lv_goto (tgt := 5) hx hb dX1_symbolsBefore_37 rfl ?_
      exact ih5 _ _ ⟨s + 1, n, rfl, lv_sub hl [0, 1, 2, 3, 4] rfl, by omega, by first | (rw [sgBef_p (by omega)]; omega) | (rw [sgBef_z (by omega)]; omega)⟩ (by omega)
    · refine lv_iinc (v := nI (n + 1)) hx hb dX1_symbolsBefore_31 hl (k := 1) rfl (sg_inc _) (by decide) rfl (fun ls hl => ?_)
      have hl : lv_has ls 5 [(3, .int (nI (n + 1))), (4, .int (nI s)), (0, .ref q0), (1, .int (nI k)), (2, .int (nI row))] := hl
      refine lv_iinc (v := nI (s + 1)) hx hb dX1_symbolsBefore_34 hl (k := 1) rfl (sg_inc _) (by decide) rfl (fun ls hl => ?_)
      have hl : lv_has ls 5 [(4, .int (nI (s + 1))), (3, .int (nI (n + 1))), (0, .ref q0), (1, .int (nI k)), (2, .int (nI row))] := hl
      refine lv_goto (tgt := 5) hx hb dX1_symbolsBefore_37 rfl ?_
      exact ih5 _ _ ⟨s + 1, n + 1, rfl, lv_sub hl [0, 1, 2, 3, 4] rfl, by omega, by first | (rw [sgBef_p (by omega)]; omega) | (rw [sgBef_z (by omega)]; omega)⟩ (by omega)
set_option maxHeartbeats 4000000 in
set_option maxRecDepth 100000 in
theorem c_X1_ofRow (l : Launch) (D : va_G) (cI cO : ClassId) (q0 : Nat) (q1 : Nat) (q2 : Nat) (q3 : Nat) (ord : Nat) (f1 : Nat → Int32) (f2 : Nat → Int32) (f3 : Nat → Int32) (rw : Nat → Nat → Nat → Nat → Nat) (k : Nat) (row : Nat) (hH : sgHold rw f1 f2 f3) (hB : sgBd rw) (ho : 1 ≤ ord ∧ ord ≤ 3) (hk : 1 ≤ k ∧ k ≤ 3) (hrow : row < sgAll k) : Met l yX1_ofRow (.code yX1_ofRow cX1_ofRow 3 (some .int) :: sgT) ({ frames := 2, cells := 0, slots := 0, locals := 46 }) (sgPc D cI cO [.ref q0, .int (nI k), .int (nI row)] [(q0, .inr (1, [.ref q1, .ref q2, .ref q3, .int (nI ord)])), (q1, .inl (cI, 7, .inl f1)), (q2, .inl (cI, 49, .inl f2)), (q3, .inl (cI, 343, .inl f3))]) (vp_Si (fun r => r = nI (sgCg rw ord k row))) 0 0 (fun _ => False) := by
  refine Met.ofW (cc := cX1_ofRow) (maxL := 3) (ret := (some .int)) (by decide) rfl ?_
  intro pZ eZ sZ mZ argsZ belowZ methZ cZ s₁ BZ hml hv
  obtain ⟨rfl, hP, hK⟩ := hv
  have hx := BZ.exec
  have hb := BZ.bytes
  have hr := BZ.returns
  have hts : ∀ wZ ∈ sgT, wZ.before ([.ref q0, .int (nI k), .int (nI row)] : List Value).toArray sZ = true := fun wZ h => atoms_spec (ws := (.code yX1_ofRow cX1_ofRow 3 (some .int) :: sgT)) BZ.pre wZ (List.mem_cons_of_mem _ h)
  have hown : sZ.vm.findClass RX1 = some mZ.cls := findClass_of_methodNamed BZ.named
  have hlocks := BZ.notSynchronized
  have hl := lv_entry ([.ref q0, .int (nI k), .int (nI row)]) (n := 3) (Nat.le_of_ble_eq_true rfl)
  rw [lg_entry_eq]
  generalize (lg_sl ([.ref q0, .int (nI k), .int (nI row)]) ++ List.replicate (3 - (lg_sl ([.ref q0, .int (nI k), .int (nI row)])).length) Slot.unset).toArray = ls at hl ⊢
  have hl : lv_has ls 3 [(0, .ref q0), (1, .int (nI k)), (2, .int (nI row))] := hl
  refine lv_iload_n hx hb dX1_ofRow_0 rfl (lv_at hl 1 rfl) ?_
  refine lv_aload_n hx hb dX1_ofRow_1 rfl (lv_at hl 0 rfl) ?_
  refine va_get (D := D) (ci := 1) (v := .int (nI ord)) (C := RX1) (T := TX1) (N := 4) hx hb hts hinX1 hown hK.1 hP 0 rfl rfl 3 (by decide) (hts _ fl_X1_21) (fun _ h9 => h9) rfl dX1_ofRow_2 ?_
  refine ci_icmp_le (X := ((k : Nat) : Int)) (Y := ((ord : Nat) : Int)) (tgt := 10) hx hb (sg_n (by omega)) (sg_n (by omega)) dX1_ofRow_5 rfl (fun h5 => ?_) (fun h5 => ?_)
  · refine lv_iload_n hx hb dX1_ofRow_10 rfl (lv_at hl 1 rfl) ?_
    refine lv_aload_n hx hb dX1_ofRow_11 rfl (lv_at hl 0 rfl) ?_
    refine va_get (D := D) (ci := 1) (v := .int (nI ord)) (C := RX1) (T := TX1) (N := 4) hx hb hts hinX1 hown hK.1 hP 0 rfl rfl 3 (by decide) (hts _ fl_X1_21) (fun _ h9 => h9) rfl dX1_ofRow_12 ?_
    refine ci_icmp_ne (X := ((k : Nat) : Int)) (Y := ((ord : Nat) : Int)) (tgt := 27) hx hb (sg_n (by omega)) (sg_n (by omega)) dX1_ofRow_15 rfl (fun h15 => ?_) (fun h15 => ?_)
    · refine lv_aload_n hx hb dX1_ofRow_27 rfl (lv_at hl 0 rfl) ?_
      refine lv_iload_n hx hb dX1_ofRow_28 rfl (lv_at hl 1 rfl) ?_
      refine lv_iload_n hx hb dX1_ofRow_29 rfl (lv_at hl 2 rfl) ?_
      refine sg_callRi (va_runV (As := [.int (nI k), .int (nI row)]) (rest := []) (C := RX1) ⟨hx, hb, hml, hown, hts⟩ (c_X1_symbolsBefore l D cI cO q0 q1 q2 q3 ord f1 f2 f3 rw k row hH hB (by omega) hrow) ⟨(sg_cB 2 hts mcX1_symbolsBefore ml_X1_33 in_X1 rfl rfl (by decide +kernel) ⟨Nat.le_of_ble_eq_true rfl, Nat.le_of_ble_eq_true rfl⟩), hts _ im_X1_symbolsBefore, hts _ se_X1_symbolsBefore⟩ (sg_pV (q0 := 0) hK hP [0, 1, 2, 3] rfl rfl rfl rfl) rfl rfl hl.1 rfl (lv_room (Nat.le_of_ble_eq_true rfl)) dX1_ofRow_30 ⟨Nat.zero_le _, Nat.zero_le _⟩) ?_
      exact W.iret hx hb hr (fun tZ ht hW => ⟨_, rfl, (by unfold sgCg sgC; first | rw [if_pos (by omega)] | rw [if_neg (by omega), if_pos (by omega)] | rw [if_neg (by omega), if_neg (by omega)]), ht⟩) (fun q h => by cases h) dX1_ofRow_33
    · refine lv_aload_n hx hb dX1_ofRow_18 rfl (lv_at hl 0 rfl) ?_
      refine lv_iload_n hx hb dX1_ofRow_19 rfl (lv_at hl 1 rfl) ?_
      refine lv_iload_n hx hb dX1_ofRow_20 rfl (lv_at hl 2 rfl) ?_
      refine sg_callRi (va_runV (As := [.int (nI k), .int (nI row)]) (rest := []) (C := RX1) ⟨hx, hb, hml, hown, hts⟩ (c_X1_rawOf l D cI cO q0 q1 q2 q3 ord f1 f2 f3 rw k row hH (by omega) hrow) ⟨(sg_cB 2 hts mcX1_rawOf ml_X1_29 in_X1 rfl rfl (by decide +kernel) ⟨Nat.le_of_ble_eq_true rfl, Nat.le_of_ble_eq_true rfl⟩), hts _ im_X1_rawOf, hts _ se_X1_rawOf⟩ (sg_pV (q0 := 0) hK hP [0, 1, 2, 3] rfl rfl rfl rfl) rfl rfl hl.1 rfl (lv_room (Nat.le_of_ble_eq_true rfl)) dX1_ofRow_21 ⟨Nat.zero_le _, Nat.zero_le _⟩) ?_
      refine lv_goto (tgt := 33) hx hb dX1_ofRow_24 rfl ?_
      exact W.iret hx hb hr (fun tZ ht hW => ⟨_, rfl, (by unfold sgCg sgC; first | rw [if_pos (by omega)] | rw [if_neg (by omega), if_pos (by omega)] | rw [if_neg (by omega), if_neg (by omega)]), ht⟩) (fun q h => by cases h) dX1_ofRow_33
  · refine lv_iconst (v := nI 0) hx hb dX1_ofRow_8 (by decide) ?_
    exact W.iret hx hb hr (fun tZ ht hW => ⟨_, rfl, (by unfold sgCg sgC; first | rw [if_pos (by omega)] | rw [if_neg (by omega), if_pos (by omega)] | rw [if_neg (by omega), if_neg (by omega)]), ht⟩) (fun q h => by cases h) dX1_ofRow_9
set_option maxHeartbeats 4000000 in
set_option maxRecDepth 100000 in
theorem c_X1_sumBehind (l : Launch) (D : va_G) (cI cO : ClassId) (q0 : Nat) (q1 : Nat) (q2 : Nat) (q3 : Nat) (ord : Nat) (f1 : Nat → Int32) (f2 : Nat → Int32) (f3 : Nat → Int32) (rw : Nat → Nat → Nat → Nat → Nat) (k : Nat) (a : Nat) (b : Nat) (hH : sgHold rw f1 f2 f3) (hF : sgFlat rw) (hB : sgBd rw) (ho : 1 ≤ ord ∧ ord ≤ 3) (hk : 1 ≤ k ∧ k ≤ 3) (ha : a < 7) (hbb : b < 7) : Met l yX1_sumBehind (.code yX1_sumBehind cX1_sumBehind 5 (some .int) :: sgT) ({ frames := 3, cells := 0, slots := 0, locals := 68 }) (sgPc D cI cO [.ref q0, .int (nI k), .int (nI (sgCx k a b))] [(q0, .inr (1, [.ref q1, .ref q2, .ref q3, .int (nI ord)])), (q1, .inl (cI, 7, .inl f1)), (q2, .inl (cI, 49, .inl f2)), (q3, .inl (cI, 343, .inl f3))]) (vp_Si (fun r => r = nI (sgTot rw ord k a b 6))) 0 0 (fun _ => False) := by
  refine Met.ofW (cc := cX1_sumBehind) (maxL := 5) (ret := (some .int)) (by decide) rfl ?_
  intro pZ eZ sZ mZ argsZ belowZ methZ cZ s₁ BZ hml hv
  obtain ⟨rfl, hP, hK⟩ := hv
  have hx := BZ.exec
  have hb := BZ.bytes
  have hr := BZ.returns
  have hts : ∀ wZ ∈ sgT, wZ.before ([.ref q0, .int (nI k), .int (nI (sgCx k a b))] : List Value).toArray sZ = true := fun wZ h => atoms_spec (ws := (.code yX1_sumBehind cX1_sumBehind 5 (some .int) :: sgT)) BZ.pre wZ (List.mem_cons_of_mem _ h)
  have hown : sZ.vm.findClass RX1 = some mZ.cls := findClass_of_methodNamed BZ.named
  have hlocks := BZ.notSynchronized
  have hl := lv_entry ([.ref q0, .int (nI k), .int (nI (sgCx k a b))]) (n := 5) (Nat.le_of_ble_eq_true rfl)
  rw [lg_entry_eq]
  generalize (lg_sl ([.ref q0, .int (nI k), .int (nI (sgCx k a b))]) ++ List.replicate (5 - (lg_sl ([.ref q0, .int (nI k), .int (nI (sgCx k a b))])).length) Slot.unset).toArray = ls at hl ⊢
  have hl : lv_has ls 5 [(0, .ref q0), (1, .int (nI k)), (2, .int (nI (sgCx k a b)))] := hl
  refine lv_iconst (v := nI 0) hx hb dX1_sumBehind_0 (by decide) ?_
  refine lv_istore_n hx hb dX1_sumBehind_1 rfl hl (by decide) rfl (fun ls hl => ?_)
  have hl : lv_has ls 5 [(3, .int (nI 0)), (0, .ref q0), (1, .int (nI k)), (2, .int (nI (sgCx k a b)))] := hl
  refine lv_iconst (v := nI 0) hx hb dX1_sumBehind_2 (by decide) ?_
  refine lv_istore hx hb dX1_sumBehind_3 hl (by decide) rfl (fun ls hl => ?_)
  have hl : lv_has ls 5 [(4, .int (nI 0)), (3, .int (nI 0)), (0, .ref q0), (1, .int (nI k)), (2, .int (nI (sgCx k a b)))] := hl
  refine sw_loopR (I := fun kM ls => ∃ (w : Nat) (n : Nat), kM = 6 - w ∧ lv_has ls 5 [(4, .int (nI w)), (3, .int (nI n)), (0, .ref q0), (1, .int (nI k)), (2, .int (nI (sgCx k a b)))] ∧ (w ≤ 6) ∧ (n = sgTot rw ord k a b w)) ?_ _ ⟨0, 0, rfl, hl, by omega, rfl⟩
  intro kM ls hI ih5
  obtain ⟨w, n, hkM, hl, hi, hn⟩ := hI
  refine lv_iload hx hb dX1_sumBehind_5 (lv_at hl 0 rfl) ?_
  refine lv_bipush (v := nI 6) hx hb dX1_sumBehind_7 (by decide) ?_
  refine ci_icmp_ge (X := ((w : Nat) : Int)) (Y := ((6 : Nat) : Int)) (tgt := 33) hx hb (sg_n (by omega)) (sg_n (by omega)) dX1_sumBehind_9 rfl (fun h9 => ?_) (fun h9 => ?_)
  · refine lv_iload_n hx hb dX1_sumBehind_33 rfl (lv_at hl 1 rfl) ?_
    exact W.iret hx hb hr (fun tZ ht hW => ⟨_, rfl, (by rw [hn]; congr 2; omega), ht⟩) (fun q h => by cases h) dX1_sumBehind_34
  · refine lv_iload_n hx hb dX1_sumBehind_12 rfl (lv_at hl 1 rfl) ?_
    refine lv_aload_n hx hb dX1_sumBehind_13 rfl (lv_at hl 2 rfl) ?_
    refine lv_iload_n hx hb dX1_sumBehind_14 rfl (lv_at hl 3 rfl) ?_
    refine lv_iload_n hx hb dX1_sumBehind_15 rfl (lv_at hl 4 rfl) ?_
    refine lv_bipush (v := nI 7) hx hb dX1_sumBehind_16 (by decide) ?_
    refine n_imul hx hb dX1_sumBehind_18 ?_
    refine lv_iload hx hb dX1_sumBehind_19 (lv_at hl 0 rfl) ?_
    refine n_iadd hx hb dX1_sumBehind_21 ?_
    refine sg_callRi (va_runV (As := [.int (nI k), .int (nI (((sgCx k a b) * 7) + w))]) (rest := [.int (nI n)]) (C := RX1) ⟨hx, hb, hml, hown, hts⟩ (c_X1_ofRow l D cI cO q0 q1 q2 q3 ord f1 f2 f3 rw k (((sgCx k a b) * 7) + w) hH hB (by omega) (by omega) (sgCx_lt hk.1 hk.2 ha hbb (by omega))) ⟨(sg_cB 2 hts mcX1_ofRow ml_X1_40 in_X1 rfl rfl (by decide +kernel) ⟨Nat.le_of_ble_eq_true rfl, Nat.le_of_ble_eq_true rfl⟩), hts _ im_X1_ofRow, hts _ se_X1_ofRow⟩ (sg_pV (q0 := 0) hK hP [0, 1, 2, 3] rfl rfl rfl rfl) rfl rfl hl.1 rfl (lv_room (Nat.le_of_ble_eq_true rfl)) dX1_sumBehind_22 ⟨Nat.zero_le _, Nat.zero_le _⟩) ?_
    refine sw_i (y := nI (sgC rw ord k a b w)) (congrArg nI (sgCg_cx hF ord hk.1 hk.2 ho.2 ha hbb (by omega))) ?_
    refine n_iadd hx hb dX1_sumBehind_25 ?_
    refine lv_istore_n hx hb dX1_sumBehind_26 rfl hl (by decide) rfl (fun ls hl => ?_)
    have hl : lv_has ls 5 [(3, .int (nI (n + (sgC rw ord k a b w)))), (4, .int (nI w)), (0, .ref q0), (1, .int (nI k)), (2, .int (nI (sgCx k a b)))] := hl
    refine lv_iinc (v := nI (w + 1)) hx hb dX1_sumBehind_27 hl (k := 1) rfl (sg_inc _) (by decide) rfl (fun ls hl => ?_)
    have hl : lv_has ls 5 [(4, .int (nI (w + 1))), (3, .int (nI (n + (sgC rw ord k a b w)))), (0, .ref q0), (1, .int (nI k)), (2, .int (nI (sgCx k a b)))] := hl
    refine lv_goto (tgt := 5) hx hb dX1_sumBehind_30 rfl ?_
    exact ih5 _ _ ⟨w + 1, n + (sgC rw ord k a b w), rfl, lv_sub hl [0, 1, 2, 3, 4] rfl, by omega, by rw [hn]; rfl⟩ (by omega)
set_option maxHeartbeats 4000000 in
set_option maxRecDepth 100000 in
theorem c_X1_kindsBehind (l : Launch) (D : va_G) (cI cO : ClassId) (q0 : Nat) (q1 : Nat) (q2 : Nat) (q3 : Nat) (ord : Nat) (f1 : Nat → Int32) (f2 : Nat → Int32) (f3 : Nat → Int32) (rw : Nat → Nat → Nat → Nat → Nat) (k : Nat) (a : Nat) (b : Nat) (hH : sgHold rw f1 f2 f3) (hF : sgFlat rw) (hB : sgBd rw) (ho : 1 ≤ ord ∧ ord ≤ 3) (hk : 1 ≤ k ∧ k ≤ 3) (ha : a < 7) (hbb : b < 7) : Met l yX1_kindsBehind (.code yX1_kindsBehind cX1_kindsBehind 5 (some .int) :: sgT) ({ frames := 3, cells := 0, slots := 0, locals := 68 }) (sgPc D cI cO [.ref q0, .int (nI k), .int (nI (sgCx k a b))] [(q0, .inr (1, [.ref q1, .ref q2, .ref q3, .int (nI ord)])), (q1, .inl (cI, 7, .inl f1)), (q2, .inl (cI, 49, .inl f2)), (q3, .inl (cI, 343, .inl f3))]) (vp_Si (fun r => r = nI (sgKin rw ord k a b 6))) 0 0 (fun _ => False) := by
  refine Met.ofW (cc := cX1_kindsBehind) (maxL := 5) (ret := (some .int)) (by decide) rfl ?_
  intro pZ eZ sZ mZ argsZ belowZ methZ cZ s₁ BZ hml hv
  obtain ⟨rfl, hP, hK⟩ := hv
  have hx := BZ.exec
  have hb := BZ.bytes
  have hr := BZ.returns
  have hts : ∀ wZ ∈ sgT, wZ.before ([.ref q0, .int (nI k), .int (nI (sgCx k a b))] : List Value).toArray sZ = true := fun wZ h => atoms_spec (ws := (.code yX1_kindsBehind cX1_kindsBehind 5 (some .int) :: sgT)) BZ.pre wZ (List.mem_cons_of_mem _ h)
  have hown : sZ.vm.findClass RX1 = some mZ.cls := findClass_of_methodNamed BZ.named
  have hlocks := BZ.notSynchronized
  have hl := lv_entry ([.ref q0, .int (nI k), .int (nI (sgCx k a b))]) (n := 5) (Nat.le_of_ble_eq_true rfl)
  rw [lg_entry_eq]
  generalize (lg_sl ([.ref q0, .int (nI k), .int (nI (sgCx k a b))]) ++ List.replicate (5 - (lg_sl ([.ref q0, .int (nI k), .int (nI (sgCx k a b))])).length) Slot.unset).toArray = ls at hl ⊢
  have hl : lv_has ls 5 [(0, .ref q0), (1, .int (nI k)), (2, .int (nI (sgCx k a b)))] := hl
  refine lv_iconst (v := nI 0) hx hb dX1_kindsBehind_0 (by decide) ?_
  refine lv_istore_n hx hb dX1_kindsBehind_1 rfl hl (by decide) rfl (fun ls hl => ?_)
  have hl : lv_has ls 5 [(3, .int (nI 0)), (0, .ref q0), (1, .int (nI k)), (2, .int (nI (sgCx k a b)))] := hl
  refine lv_iconst (v := nI 0) hx hb dX1_kindsBehind_2 (by decide) ?_
  refine lv_istore hx hb dX1_kindsBehind_3 hl (by decide) rfl (fun ls hl => ?_)
  have hl : lv_has ls 5 [(4, .int (nI 0)), (3, .int (nI 0)), (0, .ref q0), (1, .int (nI k)), (2, .int (nI (sgCx k a b)))] := hl
  refine sw_loopR (I := fun kM ls => ∃ (w : Nat) (n : Nat), kM = 6 - w ∧ lv_has ls 5 [(4, .int (nI w)), (3, .int (nI n)), (0, .ref q0), (1, .int (nI k)), (2, .int (nI (sgCx k a b)))] ∧ (w ≤ 6) ∧ (n = sgKin rw ord k a b w)) ?_ _ ⟨0, 0, rfl, hl, by omega, rfl⟩
  intro kM ls hI ih5
  obtain ⟨w, n, hkM, hl, hi, hn⟩ := hI
  refine lv_iload hx hb dX1_kindsBehind_5 (lv_at hl 0 rfl) ?_
  refine lv_bipush (v := nI 6) hx hb dX1_kindsBehind_7 (by decide) ?_
  refine ci_icmp_ge (X := ((w : Nat) : Int)) (Y := ((6 : Nat) : Int)) (tgt := 36) hx hb (sg_n (by omega)) (sg_n (by omega)) dX1_kindsBehind_9 rfl (fun h9 => ?_) (fun h9 => ?_)
  · refine lv_iload_n hx hb dX1_kindsBehind_36 rfl (lv_at hl 1 rfl) ?_
    exact W.iret hx hb hr (fun tZ ht hW => ⟨_, rfl, (by rw [hn]; congr 2; omega), ht⟩) (fun q h => by cases h) dX1_kindsBehind_37
  · refine lv_aload_n hx hb dX1_kindsBehind_12 rfl (lv_at hl 2 rfl) ?_
    refine lv_iload_n hx hb dX1_kindsBehind_13 rfl (lv_at hl 3 rfl) ?_
    refine lv_iload_n hx hb dX1_kindsBehind_14 rfl (lv_at hl 4 rfl) ?_
    refine lv_bipush (v := nI 7) hx hb dX1_kindsBehind_15 (by decide) ?_
    refine n_imul hx hb dX1_kindsBehind_17 ?_
    refine lv_iload hx hb dX1_kindsBehind_18 (lv_at hl 0 rfl) ?_
    refine n_iadd hx hb dX1_kindsBehind_20 ?_
    refine sg_callRi (va_runV (As := [.int (nI k), .int (nI (((sgCx k a b) * 7) + w))]) (rest := []) (C := RX1) ⟨hx, hb, hml, hown, hts⟩ (c_X1_ofRow l D cI cO q0 q1 q2 q3 ord f1 f2 f3 rw k (((sgCx k a b) * 7) + w) hH hB (by omega) (by omega) (sgCx_lt hk.1 hk.2 ha hbb (by omega))) ⟨(sg_cB 2 hts mcX1_ofRow ml_X1_40 in_X1 rfl rfl (by decide +kernel) ⟨Nat.le_of_ble_eq_true rfl, Nat.le_of_ble_eq_true rfl⟩), hts _ im_X1_ofRow, hts _ se_X1_ofRow⟩ (sg_pV (q0 := 0) hK hP [0, 1, 2, 3] rfl rfl rfl rfl) rfl rfl hl.1 rfl (lv_room (Nat.le_of_ble_eq_true rfl)) dX1_kindsBehind_21 ⟨Nat.zero_le _, Nat.zero_le _⟩) ?_
    refine sw_i (y := nI (sgC rw ord k a b w)) (congrArg nI (sgCg_cx hF ord hk.1 hk.2 ho.2 ha hbb (by omega))) ?_
    have hv := sgC_le hB ord k a b w
    refine ci_if_le (X := ((sgC rw ord k a b w : Nat) : Int)) (tgt := 30) hx hb (sg_n (by omega)) dX1_kindsBehind_24 rfl (fun h24 => ?_) (fun h24 => ?_)
    · refine lv_iinc (v := nI (w + 1)) hx hb dX1_kindsBehind_30 hl (k := 0) rfl (sg_inc _) (by decide) rfl (fun ls hl => ?_)
      have hl : lv_has ls 5 [(4, .int (nI (w + 1))), (3, .int (nI n)), (0, .ref q0), (1, .int (nI k)), (2, .int (nI (sgCx k a b)))] := hl
      refine lv_goto (tgt := 5) hx hb dX1_kindsBehind_33 rfl ?_
      exact ih5 _ _ ⟨w + 1, n, rfl, lv_sub hl [0, 1, 2, 3, 4] rfl, by omega, by first | (rw [sgKin_p (by omega)]; omega) | (rw [sgKin_z (by omega)]; omega)⟩ (by omega)
    · refine lv_iinc (v := nI (n + 1)) hx hb dX1_kindsBehind_27 hl (k := 1) rfl (sg_inc _) (by decide) rfl (fun ls hl => ?_)
      have hl : lv_has ls 5 [(3, .int (nI (n + 1))), (4, .int (nI w)), (0, .ref q0), (1, .int (nI k)), (2, .int (nI (sgCx k a b)))] := hl
      refine lv_iinc (v := nI (w + 1)) hx hb dX1_kindsBehind_30 hl (k := 1) rfl (sg_inc _) (by decide) rfl (fun ls hl => ?_)
      have hl : lv_has ls 5 [(4, .int (nI (w + 1))), (3, .int (nI (n + 1))), (0, .ref q0), (1, .int (nI k)), (2, .int (nI (sgCx k a b)))] := hl
      refine lv_goto (tgt := 5) hx hb dX1_kindsBehind_33 rfl ?_
      exact ih5 _ _ ⟨w + 1, n + 1, rfl, lv_sub hl [0, 1, 2, 3, 4] rfl, by omega, by first | (rw [sgKin_p (by omega)]; omega) | (rw [sgKin_z (by omega)]; omega)⟩ (by omega)

/-! the reference: state, events, counts -/
/-- the reference's lengths and words hold the sentences -/
def sgMm (ln : Nat → Nat) (wd : Nat → Nat → Nat) (ns : Nat) (gL gW : Nat → Int32) : Prop := ∀ s, s ≤ ns → gL s = nI (ln s) ∧ ln s ≤ 8 ∧ (∀ i, i < ln s → gW (8 * s + i) = nI (wd s i)) ∧ ∀ j, j < ln s → wd s j < 5
/-- the events as looked up: fw, fb, ff are the words, those before and those farther -/
def sgEvs (fw fb ff : Nat → Nat) (ga gb gf : Nat → Int32) (E : Nat) : Prop := ∀ j, j < E → ga j = nI (fw j) ∧ gb j = nI (fb j) ∧ gf j = nI (ff j) ∧ fw j < 7 ∧ fb j < 7 ∧ ff j < 7
def sgEv (rw : Nat → Nat → Nat → Nat → Nat) (ga gb gf : Nat → Int32) (E : Nat) : Prop := ∃ fw fb ff : Nat → Nat, E ≤ 72 ∧ sgEvs fw fb ff ga gb gf E ∧ ∀ k a b c, evS fw fb ff k a b c E = rw k a b c
theorem sgEvs_put {fw fb ff : Nat → Nat} {ga gb gf : Nat → Int32} {E x y z : Nat} (h : sgEvs fw fb ff ga gb gf E) (hx : x < 7) (hy : y < 7) (hz : z < 7) : sgEvs (upN fw E z) (upN fb E y) (upN ff E x) (upd ga E (nI z)) (upd gb E (nI y)) (upd gf E (nI x)) (E + 1) := by
  intro j hj
  by_cases e : j = E
  · subst e
    rw [upN_s, upN_s, upN_s, pk_us, pk_us, pk_us]
    exact ⟨rfl, rfl, rfl, hz, hy, hx⟩
  · rw [upN_n e, upN_n e, upN_n e, pk_un e, pk_un e, pk_un e]
    exact h j (by omega)
theorem evS_step {ln : Nat → Nat} {wd : Nat → Nat → Nat} {fw fb ff : Nat → Nat} {E s i : Nat} (h : ∀ k a b c, evS fw fb ff k a b c E = sgRaw ln wd k a b c s + sgR1 ln wd k a b c s i) : ∀ k a b c, evS (upN fw E (sgSy ln wd s (i + 2))) (upN fb E (sgSy ln wd s (i + 1))) (upN ff E (sgSy ln wd s i)) k a b c (E + 1) = sgRaw ln wd k a b c s + sgR1 ln wd k a b c s (i + 1) := by
  intro k a b c
  rw [evS_put, h k a b c, Nat.add_assoc]
  rfl
theorem sgM_iff {k a b c x y z : Nat} : sgM k a b c x y z = true ↔ z = c ∧ (k < 2 ∨ y = b) ∧ (k < 3 ∨ x = a) := by
  unfold sgM
  simp
theorem evS_next {fw fb ff : Nat → Nat} {k a b c t q n n' : Nat} (hn : n = evS fw fb ff k a b c t) (hq : q = if sgM k a b c (ff t) (fb t) (fw t) = true then 1 else 0) (h : n' = n + q) : n' = evS fw fb ff k a b c (t + 1) := by
  rw [h, hn, hq]
  rfl
set_option maxHeartbeats 4000000 in
set_option maxRecDepth 100000 in
theorem c_X6_isSymbol (l : Launch) (D : va_G) (cI cO : ClassId) (x : Int32)  : Met l yX6_isSymbol (.code yX6_isSymbol cX6_isSymbol 1 (some .boolean) :: sgT) ({ frames := 0, cells := 0, slots := 0, locals := 0 }) (sgPc D cI cO [.int x] []) (vp_Si (fun r => r = bI (0 ≤ x.toInt ∧ x.toInt < 7))) 0 0 (fun _ => False) := by
  refine Met.ofW (cc := cX6_isSymbol) (maxL := 1) (ret := (some .boolean)) (by decide) rfl ?_
  intro pZ eZ sZ mZ argsZ belowZ methZ cZ s₁ BZ hml hv
  obtain ⟨rfl, hP, hK⟩ := hv
  have hx := BZ.exec
  have hb := BZ.bytes
  have hr := BZ.returns
  have hts : ∀ wZ ∈ sgT, wZ.before ([.int x] : List Value).toArray sZ = true := fun wZ h => atoms_spec (ws := (.code yX6_isSymbol cX6_isSymbol 1 (some .boolean) :: sgT)) BZ.pre wZ (List.mem_cons_of_mem _ h)
  have hown : sZ.vm.findClass RX6 = some mZ.cls := findClass_of_methodNamed BZ.named
  have hlocks := BZ.notSynchronized
  have hl := lv_entry ([.int x]) (n := 1) (Nat.le_of_ble_eq_true rfl)
  rw [lg_entry_eq]
  generalize (lg_sl ([.int x]) ++ List.replicate (1 - (lg_sl ([.int x])).length) Slot.unset).toArray = ls at hl ⊢
  have hl : lv_has ls 1 [(0, .int x)] := hl
  refine lv_iload_n hx hb dX6_isSymbol_0 rfl (lv_at hl 0 rfl) ?_
  refine ci_if_lt (X := x.toInt) (tgt := 14) hx hb rfl dX6_isSymbol_1 rfl (fun h1 => ?_) (fun h1 => ?_)
  · refine lv_iconst (v := nI 0) hx hb dX6_isSymbol_14 (by decide) ?_
    exact W.zret hx hb hr rfl (fun tZ ht hW => ⟨_, rfl, (bI_f (P := 0 ≤ x.toInt ∧ x.toInt < 7) (by omega)).symm, ht⟩) (fun q h => by cases h) dX6_isSymbol_15
  · refine lv_iload_n hx hb dX6_isSymbol_4 rfl (lv_at hl 0 rfl) ?_
    refine lv_bipush (v := nI 7) hx hb dX6_isSymbol_5 (by decide) ?_
    refine ci_icmp_ge (X := x.toInt) (Y := ((7 : Nat) : Int)) (tgt := 14) hx hb rfl (sg_n (by omega)) dX6_isSymbol_7 rfl (fun h7 => ?_) (fun h7 => ?_)
    · refine lv_iconst (v := nI 0) hx hb dX6_isSymbol_14 (by decide) ?_
      exact W.zret hx hb hr rfl (fun tZ ht hW => ⟨_, rfl, (bI_f (P := 0 ≤ x.toInt ∧ x.toInt < 7) (by omega)).symm, ht⟩) (fun q h => by cases h) dX6_isSymbol_15
    · refine lv_iconst (v := nI 1) hx hb dX6_isSymbol_10 (by decide) ?_
      refine lv_goto (tgt := 15) hx hb dX6_isSymbol_11 rfl ?_
      exact W.zret hx hb hr rfl (fun tZ ht hW => ⟨_, rfl, (bI_t (P := 0 ≤ x.toInt ∧ x.toInt < 7) (by omega)).symm, ht⟩) (fun q h => by cases h) dX6_isSymbol_15
set_option maxHeartbeats 4000000 in
set_option maxRecDepth 100000 in
theorem c_X6_isLevel (l : Launch) (D : va_G) (cI cO : ClassId) (k : Int32)  : Met l yX6_isLevel (.code yX6_isLevel cX6_isLevel 1 (some .boolean) :: sgT) ({ frames := 0, cells := 0, slots := 0, locals := 0 }) (sgPc D cI cO [.int k] []) (vp_Si (fun r => r = bI (1 ≤ k.toInt ∧ k.toInt ≤ 3))) 0 0 (fun _ => False) := by
  refine Met.ofW (cc := cX6_isLevel) (maxL := 1) (ret := (some .boolean)) (by decide) rfl ?_
  intro pZ eZ sZ mZ argsZ belowZ methZ cZ s₁ BZ hml hv
  obtain ⟨rfl, hP, hK⟩ := hv
  have hx := BZ.exec
  have hb := BZ.bytes
  have hr := BZ.returns
  have hts : ∀ wZ ∈ sgT, wZ.before ([.int k] : List Value).toArray sZ = true := fun wZ h => atoms_spec (ws := (.code yX6_isLevel cX6_isLevel 1 (some .boolean) :: sgT)) BZ.pre wZ (List.mem_cons_of_mem _ h)
  have hown : sZ.vm.findClass RX6 = some mZ.cls := findClass_of_methodNamed BZ.named
  have hlocks := BZ.notSynchronized
  have hl := lv_entry ([.int k]) (n := 1) (Nat.le_of_ble_eq_true rfl)
  rw [lg_entry_eq]
  generalize (lg_sl ([.int k]) ++ List.replicate (1 - (lg_sl ([.int k])).length) Slot.unset).toArray = ls at hl ⊢
  have hl : lv_has ls 1 [(0, .int k)] := hl
  refine lv_iload_n hx hb dX6_isLevel_0 rfl (lv_at hl 0 rfl) ?_
  refine ci_if_le (X := k.toInt) (tgt := 13) hx hb rfl dX6_isLevel_1 rfl (fun h1 => ?_) (fun h1 => ?_)
  · refine lv_iconst (v := nI 0) hx hb dX6_isLevel_13 (by decide) ?_
    exact W.zret hx hb hr rfl (fun tZ ht hW => ⟨_, rfl, (bI_f (P := 1 ≤ k.toInt ∧ k.toInt ≤ 3) (by omega)).symm, ht⟩) (fun q h => by cases h) dX6_isLevel_14
  · refine lv_iload_n hx hb dX6_isLevel_4 rfl (lv_at hl 0 rfl) ?_
    refine lv_iconst (v := nI 4) hx hb dX6_isLevel_5 (by decide) ?_
    refine ci_icmp_ge (X := k.toInt) (Y := ((4 : Nat) : Int)) (tgt := 13) hx hb rfl (sg_n (by omega)) dX6_isLevel_6 rfl (fun h6 => ?_) (fun h6 => ?_)
    · refine lv_iconst (v := nI 0) hx hb dX6_isLevel_13 (by decide) ?_
      exact W.zret hx hb hr rfl (fun tZ ht hW => ⟨_, rfl, (bI_f (P := 1 ≤ k.toInt ∧ k.toInt ≤ 3) (by omega)).symm, ht⟩) (fun q h => by cases h) dX6_isLevel_14
    · refine lv_iconst (v := nI 1) hx hb dX6_isLevel_9 (by decide) ?_
      refine lv_goto (tgt := 14) hx hb dX6_isLevel_10 rfl ?_
      exact W.zret hx hb hr rfl (fun tZ ht hW => ⟨_, rfl, (bI_t (P := 1 ≤ k.toInt ∧ k.toInt ≤ 3) (by omega)).symm, ht⟩) (fun q h => by cases h) dX6_isLevel_14
set_option maxHeartbeats 4000000 in
set_option maxRecDepth 100000 in
theorem c_X6_isWord (l : Launch) (D : va_G) (cI cO : ClassId) (x : Int32)  : Met l yX6_isWord (.code yX6_isWord cX6_isWord 1 (some .boolean) :: sgT) ({ frames := 0, cells := 0, slots := 0, locals := 0 }) (sgPc D cI cO [.int x] []) (vp_Si (fun r => r = bI (0 ≤ x.toInt ∧ x.toInt < 6))) 0 0 (fun _ => False) := by
  refine Met.ofW (cc := cX6_isWord) (maxL := 1) (ret := (some .boolean)) (by decide) rfl ?_
  intro pZ eZ sZ mZ argsZ belowZ methZ cZ s₁ BZ hml hv
  obtain ⟨rfl, hP, hK⟩ := hv
  have hx := BZ.exec
  have hb := BZ.bytes
  have hr := BZ.returns
  have hts : ∀ wZ ∈ sgT, wZ.before ([.int x] : List Value).toArray sZ = true := fun wZ h => atoms_spec (ws := (.code yX6_isWord cX6_isWord 1 (some .boolean) :: sgT)) BZ.pre wZ (List.mem_cons_of_mem _ h)
  have hown : sZ.vm.findClass RX6 = some mZ.cls := findClass_of_methodNamed BZ.named
  have hlocks := BZ.notSynchronized
  have hl := lv_entry ([.int x]) (n := 1) (Nat.le_of_ble_eq_true rfl)
  rw [lg_entry_eq]
  generalize (lg_sl ([.int x]) ++ List.replicate (1 - (lg_sl ([.int x])).length) Slot.unset).toArray = ls at hl ⊢
  have hl : lv_has ls 1 [(0, .int x)] := hl
  refine lv_iload_n hx hb dX6_isWord_0 rfl (lv_at hl 0 rfl) ?_
  refine ci_if_lt (X := x.toInt) (tgt := 14) hx hb rfl dX6_isWord_1 rfl (fun h1 => ?_) (fun h1 => ?_)
  · refine lv_iconst (v := nI 0) hx hb dX6_isWord_14 (by decide) ?_
    exact W.zret hx hb hr rfl (fun tZ ht hW => ⟨_, rfl, (bI_f (P := 0 ≤ x.toInt ∧ x.toInt < 6) (by omega)).symm, ht⟩) (fun q h => by cases h) dX6_isWord_15
  · refine lv_iload_n hx hb dX6_isWord_4 rfl (lv_at hl 0 rfl) ?_
    refine lv_bipush (v := nI 6) hx hb dX6_isWord_5 (by decide) ?_
    refine ci_icmp_ge (X := x.toInt) (Y := ((6 : Nat) : Int)) (tgt := 14) hx hb rfl (sg_n (by omega)) dX6_isWord_7 rfl (fun h7 => ?_) (fun h7 => ?_)
    · refine lv_iconst (v := nI 0) hx hb dX6_isWord_14 (by decide) ?_
      exact W.zret hx hb hr rfl (fun tZ ht hW => ⟨_, rfl, (bI_f (P := 0 ≤ x.toInt ∧ x.toInt < 6) (by omega)).symm, ht⟩) (fun q h => by cases h) dX6_isWord_15
    · refine lv_iconst (v := nI 1) hx hb dX6_isWord_10 (by decide) ?_
      refine lv_goto (tgt := 15) hx hb dX6_isWord_11 rfl ?_
      exact W.zret hx hb hr rfl (fun tZ ht hW => ⟨_, rfl, (bI_t (P := 0 ≤ x.toInt ∧ x.toInt < 6) (by omega)).symm, ht⟩) (fun q h => by cases h) dX6_isWord_15
set_option maxHeartbeats 4000000 in
set_option maxRecDepth 100000 in
theorem c_X6_areSymbols (l : Launch) (D : va_G) (cI cO : ClassId) (m : Nat) (me : Nat) (ml : Nat) (mw : Nat) (wa : Nat) (wb : Nat) (wf : Nat) (li : Nat) (ord : Nat) (ns : Nat) (ev : Int32) (y0 : Int64) (y1 : Int64) (ge : Nat → Int32) (gL : Nat → Int32) (gW : Nat → Int32) (ga : Nat → Int32) (gb : Nat → Int32) (gf : Nat → Int32) (lim : Nat → Int32) (k : Int32) (a : Int32) (b : Int32)  : Met l yX6_areSymbols (.code yX6_areSymbols cX6_areSymbols 4 (some .boolean) :: sgT) ({ frames := 1, cells := 0, slots := 0, locals := 20 }) (sgPc D cI cO [.ref m, .int k, .int a, .int b] [(m, .inr (6, [.int (nI ord), .ref me, .int (nI ns), .ref ml, .ref mw, .int ev, .ref wa, .ref wb, .ref wf, .long y0, .long y1, .ref li])), (me, .inl (cI, 4, .inl ge)), (ml, .inl (cI, 9, .inl gL)), (mw, .inl (cI, 72, .inl gW)), (wa, .inl (cI, 72, .inl ga)), (wb, .inl (cI, 72, .inl gb)), (wf, .inl (cI, 72, .inl gf)), (li, .inl (cI, 240, .inl lim))]) (vp_Si (fun r => r = bI ((1 ≤ k.toInt ∧ k.toInt ≤ 3) ∧ (k.toInt < 2 ∨ (0 ≤ b.toInt ∧ b.toInt < 7)) ∧ (k.toInt < 3 ∨ (0 ≤ a.toInt ∧ a.toInt < 7))))) 0 0 (fun _ => False) := by
  refine Met.ofW (cc := cX6_areSymbols) (maxL := 4) (ret := (some .boolean)) (by decide) rfl ?_
  intro pZ eZ sZ mZ argsZ belowZ methZ cZ s₁ BZ hml hv
  obtain ⟨rfl, hP, hK⟩ := hv
  have hx := BZ.exec
  have hb := BZ.bytes
  have hr := BZ.returns
  have hts : ∀ wZ ∈ sgT, wZ.before ([.ref m, .int k, .int a, .int b] : List Value).toArray sZ = true := fun wZ h => atoms_spec (ws := (.code yX6_areSymbols cX6_areSymbols 4 (some .boolean) :: sgT)) BZ.pre wZ (List.mem_cons_of_mem _ h)
  have hown : sZ.vm.findClass RX6 = some mZ.cls := findClass_of_methodNamed BZ.named
  have hlocks := BZ.notSynchronized
  have hl := lv_entry ([.ref m, .int k, .int a, .int b]) (n := 4) (Nat.le_of_ble_eq_true rfl)
  rw [lg_entry_eq]
  generalize (lg_sl ([.ref m, .int k, .int a, .int b]) ++ List.replicate (4 - (lg_sl ([.ref m, .int k, .int a, .int b])).length) Slot.unset).toArray = ls at hl ⊢
  have hl : lv_has ls 4 [(0, .ref m), (1, .int k), (2, .int a), (3, .int b)] := hl
  refine lv_iload_n hx hb dX6_areSymbols_0 rfl (lv_at hl 1 rfl) ?_
  refine sg_callRi (va_runS (As := [.int k]) (rest := []) ⟨hx, hb, hml, hown, hts⟩ (c_X6_isLevel l D cI cO k) ⟨(sg_cB 1 hts mcX6_isLevel ml_X6_49 in_X6 rfl rfl (by decide +kernel) ⟨Nat.le_of_ble_eq_true rfl, Nat.le_of_ble_eq_true rfl⟩), hts _ st_X6_isLevel⟩ (sg_pS hK hP [] rfl) rfl rfl hl.1 rfl (lv_room (Nat.le_of_ble_eq_true rfl)) dX6_areSymbols_1 ⟨Nat.zero_le _, Nat.zero_le _⟩) ?_
  refine ci_beq (P := (1 ≤ k.toInt ∧ k.toInt ≤ 3)) (tgt := 35) hx hb dX6_areSymbols_4 rfl (fun h4 => ?_) (fun h4 => ?_)
  · refine lv_iconst (v := nI 0) hx hb dX6_areSymbols_35 (by decide) ?_
    exact W.zret hx hb hr rfl (fun tZ ht hW => ⟨_, rfl, (bI_f (P := (1 ≤ k.toInt ∧ k.toInt ≤ 3) ∧ (k.toInt < 2 ∨ (0 ≤ b.toInt ∧ b.toInt < 7)) ∧ (k.toInt < 3 ∨ (0 ≤ a.toInt ∧ a.toInt < 7))) (by omega)).symm, ht⟩) (fun q h => by cases h) dX6_areSymbols_36
  · refine lv_iload_n hx hb dX6_areSymbols_7 rfl (lv_at hl 1 rfl) ?_
    refine lv_iconst (v := nI 2) hx hb dX6_areSymbols_8 (by decide) ?_
    refine ci_icmp_lt (X := k.toInt) (Y := ((2 : Nat) : Int)) (tgt := 19) hx hb rfl (sg_n (by omega)) dX6_areSymbols_9 rfl (fun h9 => ?_) (fun h9 => ?_)
    · refine lv_iload_n hx hb dX6_areSymbols_19 rfl (lv_at hl 1 rfl) ?_
      refine lv_iconst (v := nI 3) hx hb dX6_areSymbols_20 (by decide) ?_
      refine ci_icmp_lt (X := k.toInt) (Y := ((3 : Nat) : Int)) (tgt := 31) hx hb rfl (sg_n (by omega)) dX6_areSymbols_21 rfl (fun h21 => ?_) (fun h21 => ?_)
      · refine lv_iconst (v := nI 1) hx hb dX6_areSymbols_31 (by decide) ?_
        refine lv_goto (tgt := 36) hx hb dX6_areSymbols_32 rfl ?_
        exact W.zret hx hb hr rfl (fun tZ ht hW => ⟨_, rfl, (bI_t (P := (1 ≤ k.toInt ∧ k.toInt ≤ 3) ∧ (k.toInt < 2 ∨ (0 ≤ b.toInt ∧ b.toInt < 7)) ∧ (k.toInt < 3 ∨ (0 ≤ a.toInt ∧ a.toInt < 7))) (by omega)).symm, ht⟩) (fun q h => by cases h) dX6_areSymbols_36
      · refine lv_iload_n hx hb dX6_areSymbols_24 rfl (lv_at hl 2 rfl) ?_
        refine sg_callRi (va_runS (As := [.int a]) (rest := []) ⟨hx, hb, hml, hown, hts⟩ (c_X6_isSymbol l D cI cO a) ⟨(sg_cB 1 hts mcX6_isSymbol ml_X6_53 in_X6 rfl rfl (by decide +kernel) ⟨Nat.le_of_ble_eq_true rfl, Nat.le_of_ble_eq_true rfl⟩), hts _ st_X6_isSymbol⟩ (sg_pS hK hP [] rfl) rfl rfl hl.1 rfl (lv_room (Nat.le_of_ble_eq_true rfl)) dX6_areSymbols_25 ⟨Nat.zero_le _, Nat.zero_le _⟩) ?_
        refine ci_beq (P := (0 ≤ a.toInt ∧ a.toInt < 7)) (tgt := 35) hx hb dX6_areSymbols_28 rfl (fun h28 => ?_) (fun h28 => ?_)
        · refine lv_iconst (v := nI 0) hx hb dX6_areSymbols_35 (by decide) ?_
          exact W.zret hx hb hr rfl (fun tZ ht hW => ⟨_, rfl, (bI_f (P := (1 ≤ k.toInt ∧ k.toInt ≤ 3) ∧ (k.toInt < 2 ∨ (0 ≤ b.toInt ∧ b.toInt < 7)) ∧ (k.toInt < 3 ∨ (0 ≤ a.toInt ∧ a.toInt < 7))) (by omega)).symm, ht⟩) (fun q h => by cases h) dX6_areSymbols_36
        · refine lv_iconst (v := nI 1) hx hb dX6_areSymbols_31 (by decide) ?_
          refine lv_goto (tgt := 36) hx hb dX6_areSymbols_32 rfl ?_
          exact W.zret hx hb hr rfl (fun tZ ht hW => ⟨_, rfl, (bI_t (P := (1 ≤ k.toInt ∧ k.toInt ≤ 3) ∧ (k.toInt < 2 ∨ (0 ≤ b.toInt ∧ b.toInt < 7)) ∧ (k.toInt < 3 ∨ (0 ≤ a.toInt ∧ a.toInt < 7))) (by omega)).symm, ht⟩) (fun q h => by cases h) dX6_areSymbols_36
    · refine lv_iload_n hx hb dX6_areSymbols_12 rfl (lv_at hl 3 rfl) ?_
      refine sg_callRi (va_runS (As := [.int b]) (rest := []) ⟨hx, hb, hml, hown, hts⟩ (c_X6_isSymbol l D cI cO b) ⟨(sg_cB 1 hts mcX6_isSymbol ml_X6_53 in_X6 rfl rfl (by decide +kernel) ⟨Nat.le_of_ble_eq_true rfl, Nat.le_of_ble_eq_true rfl⟩), hts _ st_X6_isSymbol⟩ (sg_pS hK hP [] rfl) rfl rfl hl.1 rfl (lv_room (Nat.le_of_ble_eq_true rfl)) dX6_areSymbols_13 ⟨Nat.zero_le _, Nat.zero_le _⟩) ?_
      refine ci_beq (P := (0 ≤ b.toInt ∧ b.toInt < 7)) (tgt := 35) hx hb dX6_areSymbols_16 rfl (fun h16 => ?_) (fun h16 => ?_)
      · refine lv_iconst (v := nI 0) hx hb dX6_areSymbols_35 (by decide) ?_
        exact W.zret hx hb hr rfl (fun tZ ht hW => ⟨_, rfl, (bI_f (P := (1 ≤ k.toInt ∧ k.toInt ≤ 3) ∧ (k.toInt < 2 ∨ (0 ≤ b.toInt ∧ b.toInt < 7)) ∧ (k.toInt < 3 ∨ (0 ≤ a.toInt ∧ a.toInt < 7))) (by omega)).symm, ht⟩) (fun q h => by cases h) dX6_areSymbols_36
      · refine lv_iload_n hx hb dX6_areSymbols_19 rfl (lv_at hl 1 rfl) ?_
        refine lv_iconst (v := nI 3) hx hb dX6_areSymbols_20 (by decide) ?_
        refine ci_icmp_lt (X := k.toInt) (Y := ((3 : Nat) : Int)) (tgt := 31) hx hb rfl (sg_n (by omega)) dX6_areSymbols_21 rfl (fun h21 => ?_) (fun h21 => ?_)
        · refine lv_iconst (v := nI 1) hx hb dX6_areSymbols_31 (by decide) ?_
          refine lv_goto (tgt := 36) hx hb dX6_areSymbols_32 rfl ?_
          exact W.zret hx hb hr rfl (fun tZ ht hW => ⟨_, rfl, (bI_t (P := (1 ≤ k.toInt ∧ k.toInt ≤ 3) ∧ (k.toInt < 2 ∨ (0 ≤ b.toInt ∧ b.toInt < 7)) ∧ (k.toInt < 3 ∨ (0 ≤ a.toInt ∧ a.toInt < 7))) (by omega)).symm, ht⟩) (fun q h => by cases h) dX6_areSymbols_36
        · refine lv_iload_n hx hb dX6_areSymbols_24 rfl (lv_at hl 2 rfl) ?_
          refine sg_callRi (va_runS (As := [.int a]) (rest := []) ⟨hx, hb, hml, hown, hts⟩ (c_X6_isSymbol l D cI cO a) ⟨(sg_cB 1 hts mcX6_isSymbol ml_X6_53 in_X6 rfl rfl (by decide +kernel) ⟨Nat.le_of_ble_eq_true rfl, Nat.le_of_ble_eq_true rfl⟩), hts _ st_X6_isSymbol⟩ (sg_pS hK hP [] rfl) rfl rfl hl.1 rfl (lv_room (Nat.le_of_ble_eq_true rfl)) dX6_areSymbols_25 ⟨Nat.zero_le _, Nat.zero_le _⟩) ?_
          refine ci_beq (P := (0 ≤ a.toInt ∧ a.toInt < 7)) (tgt := 35) hx hb dX6_areSymbols_28 rfl (fun h28 => ?_) (fun h28 => ?_)
          · refine lv_iconst (v := nI 0) hx hb dX6_areSymbols_35 (by decide) ?_
            exact W.zret hx hb hr rfl (fun tZ ht hW => ⟨_, rfl, (bI_f (P := (1 ≤ k.toInt ∧ k.toInt ≤ 3) ∧ (k.toInt < 2 ∨ (0 ≤ b.toInt ∧ b.toInt < 7)) ∧ (k.toInt < 3 ∨ (0 ≤ a.toInt ∧ a.toInt < 7))) (by omega)).symm, ht⟩) (fun q h => by cases h) dX6_areSymbols_36
          · refine lv_iconst (v := nI 1) hx hb dX6_areSymbols_31 (by decide) ?_
            refine lv_goto (tgt := 36) hx hb dX6_areSymbols_32 rfl ?_
            exact W.zret hx hb hr rfl (fun tZ ht hW => ⟨_, rfl, (bI_t (P := (1 ≤ k.toInt ∧ k.toInt ≤ 3) ∧ (k.toInt < 2 ∨ (0 ≤ b.toInt ∧ b.toInt < 7)) ∧ (k.toInt < 3 ∨ (0 ≤ a.toInt ∧ a.toInt < 7))) (by omega)).symm, ht⟩) (fun q h => by cases h) dX6_areSymbols_36
set_option maxHeartbeats 4000000 in
set_option maxRecDepth 100000 in
theorem r_order_bad (l : Launch) (D : va_G) (cI cO : ClassId) (m : Nat) (me : Nat) (ml : Nat) (mw : Nat) (wa : Nat) (wb : Nat) (wf : Nat) (li : Nat) (ord : Nat) (ns : Nat) (ev : Int32) (y0 : Int64) (y1 : Int64) (ge : Nat → Int32) (gL : Nat → Int32) (gW : Nat → Int32) (ga : Nat → Int32) (gb : Nat → Int32) (gf : Nat → Int32) (lim : Nat → Int32) (n : Int32) (hn : ¬ (1 ≤ n.toInt ∧ n.toInt ≤ 3)) : Met l yX6_order (.code yX6_order cX6_order 2 (some .boolean) :: sgT) ({ frames := 0, cells := 0, slots := 0, locals := 0 }) (sgPc D cI cO [.ref m, .int n] [(m, .inr (6, [.int (nI ord), .ref me, .int (nI ns), .ref ml, .ref mw, .int ev, .ref wa, .ref wb, .ref wf, .long y0, .long y1, .ref li])), (me, .inl (cI, 4, .inl ge)), (ml, .inl (cI, 9, .inl gL)), (mw, .inl (cI, 72, .inl gW)), (wa, .inl (cI, 72, .inl ga)), (wb, .inl (cI, 72, .inl gb)), (wf, .inl (cI, 72, .inl gf)), (li, .inl (cI, 240, .inl lim))]) (vp_Si (fun r => r = nI 0)) 0 0 (fun _ => False) := by
  refine Met.ofW (cc := cX6_order) (maxL := 2) (ret := (some .boolean)) (by decide) rfl ?_
  intro pZ eZ sZ mZ argsZ belowZ methZ cZ s₁ BZ hml hv
  obtain ⟨rfl, hP, hK⟩ := hv
  have hx := BZ.exec
  have hb := BZ.bytes
  have hr := BZ.returns
  have hts : ∀ wZ ∈ sgT, wZ.before ([.ref m, .int n] : List Value).toArray sZ = true := fun wZ h => atoms_spec (ws := (.code yX6_order cX6_order 2 (some .boolean) :: sgT)) BZ.pre wZ (List.mem_cons_of_mem _ h)
  have hown : sZ.vm.findClass RX6 = some mZ.cls := findClass_of_methodNamed BZ.named
  have hlocks := BZ.notSynchronized
  have hl := lv_entry ([.ref m, .int n]) (n := 2) (Nat.le_of_ble_eq_true rfl)
  rw [lg_entry_eq]
  generalize (lg_sl ([.ref m, .int n]) ++ List.replicate (2 - (lg_sl ([.ref m, .int n])).length) Slot.unset).toArray = ls at hl ⊢
  have hl : lv_has ls 2 [(0, .ref m), (1, .int n)] := hl
  refine lv_iload_n hx hb dX6_order_0 rfl (lv_at hl 1 rfl) ?_
  refine lv_iconst (v := nI 1) hx hb dX6_order_1 (by decide) ?_
  refine ci_icmp_lt (X := n.toInt) (Y := ((1 : Nat) : Int)) (tgt := 10) hx hb rfl (sg_n (by omega)) dX6_order_2 rfl (fun h2 => ?_) (fun h2 => ?_)
  · refine lv_iconst (v := nI 0) hx hb dX6_order_10 (by decide) ?_
    exact W.zret hx hb hr rfl (fun tZ ht hW => ⟨_, rfl, rfl, ht⟩) (fun q h => by cases h) dX6_order_11
  · refine lv_iload_n hx hb dX6_order_5 rfl (lv_at hl 1 rfl) ?_
    refine lv_iconst (v := nI 3) hx hb dX6_order_6 (by decide) ?_
    refine ci_icmp_le (X := n.toInt) (Y := ((3 : Nat) : Int)) (tgt := 12) hx hb rfl (sg_n (by omega)) dX6_order_7 rfl (fun h7 => by exfalso; omega) (fun h7 => ?_)
    refine lv_iconst (v := nI 0) hx hb dX6_order_10 (by decide) ?_
    exact W.zret hx hb hr rfl (fun tZ ht hW => ⟨_, rfl, rfl, ht⟩) (fun q h => by cases h) dX6_order_11
set_option maxHeartbeats 4000000 in
set_option maxRecDepth 100000 in
theorem c_X6_order (l : Launch) (D : va_G) (cI cO : ClassId) (m : Nat) (me : Nat) (ml : Nat) (mw : Nat) (wa : Nat) (wb : Nat) (wf : Nat) (li : Nat) (ord : Nat) (ns : Nat) (ev : Int32) (y0 : Int64) (y1 : Int64) (ge : Nat → Int32) (gL : Nat → Int32) (gW : Nat → Int32) (ga : Nat → Int32) (gb : Nat → Int32) (gf : Nat → Int32) (lim : Nat → Int32) (k : Nat) (hk : 1 ≤ k ∧ k ≤ 3) : Met l yX6_order (.code yX6_order cX6_order 2 (some .boolean) :: sgT) ({ frames := 0, cells := 0, slots := 0, locals := 0 }) (sgWc D cI cO [.ref m, .int (nI k)] [(m, .inr (6, [.int (nI ord), .ref me, .int (nI ns), .ref ml, .ref mw, .int ev, .ref wa, .ref wb, .ref wf, .long y0, .long y1, .ref li])), (me, .inl (cI, 4, .inl ge)), (ml, .inl (cI, 9, .inl gL)), (mw, .inl (cI, 72, .inl gW)), (wa, .inl (cI, 72, .inl ga)), (wb, .inl (cI, 72, .inl gb)), (wf, .inl (cI, 72, .inl gf)), (li, .inl (cI, 240, .inl lim))]) (va_Qi (fun (r : Int32) (uZ : Unit) => r = nI 1) (fun uZ t => va_P D vwCl [(m, .inr (6, [.int (nI k), .ref me, .int (nI ns), .ref ml, .ref mw, .int ev, .ref wa, .ref wb, .ref wf, .long y0, .long y1, .ref li])), (me, .inl (cI, 4, .inl ge)), (ml, .inl (cI, 9, .inl gL)), (mw, .inl (cI, 72, .inl gW)), (wa, .inl (cI, 72, .inl ga)), (wb, .inl (cI, 72, .inl gb)), (wf, .inl (cI, 72, .inl gf)), (li, .inl (cI, 240, .inl lim))] t.heap) (xA [(m, .inr (6, [.int (nI ord), .ref me, .int (nI ns), .ref ml, .ref mw, .int ev, .ref wa, .ref wb, .ref wf, .long y0, .long y1, .ref li])), (me, .inl (cI, 4, .inl ge)), (ml, .inl (cI, 9, .inl gL)), (mw, .inl (cI, 72, .inl gW)), (wa, .inl (cI, 72, .inl ga)), (wb, .inl (cI, 72, .inl gb)), (wf, .inl (cI, 72, .inl gf)), (li, .inl (cI, 240, .inl lim))])) 0 0 (xA [(m, .inr (6, [.int (nI ord), .ref me, .int (nI ns), .ref ml, .ref mw, .int ev, .ref wa, .ref wb, .ref wf, .long y0, .long y1, .ref li])), (me, .inl (cI, 4, .inl ge)), (ml, .inl (cI, 9, .inl gL)), (mw, .inl (cI, 72, .inl gW)), (wa, .inl (cI, 72, .inl ga)), (wb, .inl (cI, 72, .inl gb)), (wf, .inl (cI, 72, .inl gf)), (li, .inl (cI, 240, .inl lim))]) := by
  refine Met.ofW (cc := cX6_order) (maxL := 2) (ret := (some .boolean)) (by decide) rfl ?_
  intro pZ eZ sZ mZ argsZ belowZ methZ cZ s₁ BZ hml hv
  obtain ⟨rfl, hP, hK, hD0⟩ := hv
  have hx := BZ.exec
  have hb := BZ.bytes
  have hr := BZ.returns
  have hts : ∀ wZ ∈ sgT, wZ.before ([.ref m, .int (nI k)] : List Value).toArray sZ = true := fun wZ h => atoms_spec (ws := (.code yX6_order cX6_order 2 (some .boolean) :: sgT)) BZ.pre wZ (List.mem_cons_of_mem _ h)
  have hown : sZ.vm.findClass RX6 = some mZ.cls := findClass_of_methodNamed BZ.named
  have hlocks := BZ.notSynchronized
  have hD : va_D (xA [(m, .inr (6, [.int (nI ord), .ref me, .int (nI ns), .ref ml, .ref mw, .int ev, .ref wa, .ref wb, .ref wf, .long y0, .long y1, .ref li])), (me, .inl (cI, 4, .inl ge)), (ml, .inl (cI, 9, .inl gL)), (mw, .inl (cI, 72, .inl gW)), (wa, .inl (cI, 72, .inl ga)), (wb, .inl (cI, 72, .inl gb)), (wf, .inl (cI, 72, .inl gf)), (li, .inl (cI, 240, .inl lim))]) [(m, .inr (6, [.int (nI ord), .ref me, .int (nI ns), .ref ml, .ref mw, .int ev, .ref wa, .ref wb, .ref wf, .long y0, .long y1, .ref li])), (me, .inl (cI, 4, .inl ge)), (ml, .inl (cI, 9, .inl gL)), (mw, .inl (cI, 72, .inl gW)), (wa, .inl (cI, 72, .inl ga)), (wb, .inl (cI, 72, .inl gb)), (wf, .inl (cI, 72, .inl gf)), (li, .inl (cI, 240, .inl lim))] := ⟨hD0.1, fun k q h => ⟨k, q.2, h⟩⟩
  generalize hAe : xA [(m, .inr (6, [.int (nI ord), .ref me, .int (nI ns), .ref ml, .ref mw, .int ev, .ref wa, .ref wb, .ref wf, .long y0, .long y1, .ref li])), (me, .inl (cI, 4, .inl ge)), (ml, .inl (cI, 9, .inl gL)), (mw, .inl (cI, 72, .inl gW)), (wa, .inl (cI, 72, .inl ga)), (wb, .inl (cI, 72, .inl gb)), (wf, .inl (cI, 72, .inl gf)), (li, .inl (cI, 240, .inl lim))] = A at hD ⊢
  have hS : va_S A sZ.heap sZ.heap [] := va_S.rf
  have hl := lv_entry ([.ref m, .int (nI k)]) (n := 2) (Nat.le_of_ble_eq_true rfl)
  rw [lg_entry_eq]
  generalize (lg_sl ([.ref m, .int (nI k)]) ++ List.replicate (2 - (lg_sl ([.ref m, .int (nI k)])).length) Slot.unset).toArray = ls at hl ⊢
  have hl : lv_has ls 2 [(0, .ref m), (1, .int (nI k))] := hl
  have hP : va_P D vwCl [(m, .inr (6, [.int (nI ord), .ref me, .int (nI ns), .ref ml, .ref mw, .int ev, .ref wa, .ref wb, .ref wf, .long y0, .long y1, .ref li])), (me, .inl (cI, 4, .inl ge)), (ml, .inl (cI, 9, .inl gL)), (mw, .inl (cI, 72, .inl gW)), (wa, .inl (cI, 72, .inl ga)), (wb, .inl (cI, 72, .inl gb)), (wf, .inl (cI, 72, .inl gf)), (li, .inl (cI, 240, .inl lim))] sZ.heap := hP
  refine lv_iload_n hx hb dX6_order_0 rfl (lv_at hl 1 rfl) ?_
  refine lv_iconst (v := nI 1) hx hb dX6_order_1 (by decide) ?_
  refine ci_icmp_lt (X := ((k : Nat) : Int)) (Y := ((1 : Nat) : Int)) (tgt := 10) hx hb (sg_n (by omega)) (sg_n (by omega)) dX6_order_2 rfl (fun h2 => by exfalso; omega) (fun h2 => ?_)
  refine lv_iload_n hx hb dX6_order_5 rfl (lv_at hl 1 rfl) ?_
  refine lv_iconst (v := nI 3) hx hb dX6_order_6 (by decide) ?_
  refine ci_icmp_le (X := ((k : Nat) : Int)) (Y := ((3 : Nat) : Int)) (tgt := 12) hx hb (sg_n (by omega)) (sg_n (by omega)) dX6_order_7 rfl (fun h7 => ?_) (fun h7 => by exfalso; omega)
  refine lv_aload_n hx hb dX6_order_12 rfl (lv_at hl 0 rfl) ?_
  refine lv_iload_n hx hb dX6_order_13 rfl (lv_at hl 1 rfl) ?_
  refine va_put (D := D) (ci := 6) (v := .int (nI k)) (ty := .int) (C := RX6) (T := TX6) (N := 12) hx hb hts hinX6 tyX6 tyX6_ok nmX6 hown hK.1 hP hD hS 0 rfl rfl 0 (by decide) (hts _ fl_X6_7) (fun _ h9 => h9) rfl (by decide +kernel) rfl rfl (Nat.le_of_ble_eq_true rfl) dX6_order_14 (fun H locs hP hD hS => ?_)
  have hP : va_P D vwCl [(m, .inr (6, [.int (nI k), .ref me, .int (nI ns), .ref ml, .ref mw, .int ev, .ref wa, .ref wb, .ref wf, .long y0, .long y1, .ref li])), (me, .inl (cI, 4, .inl ge)), (ml, .inl (cI, 9, .inl gL)), (mw, .inl (cI, 72, .inl gW)), (wa, .inl (cI, 72, .inl ga)), (wb, .inl (cI, 72, .inl gb)), (wf, .inl (cI, 72, .inl gf)), (li, .inl (cI, 240, .inl lim))] H := hP
  have hD : va_D A [(m, .inr (6, [.int (nI k), .ref me, .int (nI ns), .ref ml, .ref mw, .int ev, .ref wa, .ref wb, .ref wf, .long y0, .long y1, .ref li])), (me, .inl (cI, 4, .inl ge)), (ml, .inl (cI, 9, .inl gL)), (mw, .inl (cI, 72, .inl gW)), (wa, .inl (cI, 72, .inl ga)), (wb, .inl (cI, 72, .inl gb)), (wf, .inl (cI, 72, .inl gf)), (li, .inl (cI, 240, .inl lim))] := hD
  refine lv_iconst (v := nI 1) hx hb dX6_order_17 (by decide) ?_
  exact W.zret hx hb hr rfl (fun tZ ht hW => ⟨⟨_, (), rfl, rfl, by show va_P D vwCl _ tZ.heap; rw [ht]; exact hP⟩, hS.F ht⟩) hS.2.2 dX6_order_18
set_option maxHeartbeats 4000000 in
set_option maxRecDepth 100000 in
theorem r_discount_bad (l : Launch) (D : va_G) (cI cO : ClassId) (m : Nat) (me : Nat) (ml : Nat) (mw : Nat) (wa : Nat) (wb : Nat) (wf : Nat) (li : Nat) (ord : Nat) (ns : Nat) (ev : Int32) (y0 : Int64) (y1 : Int64) (ge : Nat → Int32) (gL : Nat → Int32) (gW : Nat → Int32) (ga : Nat → Int32) (gb : Nat → Int32) (gf : Nat → Int32) (lim : Nat → Int32) (n : Int32) (v : Int32) (hn : ¬ ((1 ≤ n.toInt ∧ n.toInt ≤ 3) ∧ 1 ≤ v.toInt ∧ v.toInt ≤ 8)) : Met l yX6_discount (.code yX6_discount cX6_discount 3 (some .boolean) :: sgT) ({ frames := 0, cells := 0, slots := 0, locals := 0 }) (sgPc D cI cO [.ref m, .int n, .int v] [(m, .inr (6, [.int (nI ord), .ref me, .int (nI ns), .ref ml, .ref mw, .int ev, .ref wa, .ref wb, .ref wf, .long y0, .long y1, .ref li])), (me, .inl (cI, 4, .inl ge)), (ml, .inl (cI, 9, .inl gL)), (mw, .inl (cI, 72, .inl gW)), (wa, .inl (cI, 72, .inl ga)), (wb, .inl (cI, 72, .inl gb)), (wf, .inl (cI, 72, .inl gf)), (li, .inl (cI, 240, .inl lim))]) (vp_Si (fun r => r = nI 0)) 0 0 (fun _ => False) := by
  refine Met.ofW (cc := cX6_discount) (maxL := 3) (ret := (some .boolean)) (by decide) rfl ?_
  intro pZ eZ sZ mZ argsZ belowZ methZ cZ s₁ BZ hml hv
  obtain ⟨rfl, hP, hK⟩ := hv
  have hx := BZ.exec
  have hb := BZ.bytes
  have hr := BZ.returns
  have hts : ∀ wZ ∈ sgT, wZ.before ([.ref m, .int n, .int v] : List Value).toArray sZ = true := fun wZ h => atoms_spec (ws := (.code yX6_discount cX6_discount 3 (some .boolean) :: sgT)) BZ.pre wZ (List.mem_cons_of_mem _ h)
  have hown : sZ.vm.findClass RX6 = some mZ.cls := findClass_of_methodNamed BZ.named
  have hlocks := BZ.notSynchronized
  have hl := lv_entry ([.ref m, .int n, .int v]) (n := 3) (Nat.le_of_ble_eq_true rfl)
  rw [lg_entry_eq]
  generalize (lg_sl ([.ref m, .int n, .int v]) ++ List.replicate (3 - (lg_sl ([.ref m, .int n, .int v])).length) Slot.unset).toArray = ls at hl ⊢
  have hl : lv_has ls 3 [(0, .ref m), (1, .int n), (2, .int v)] := hl
  refine lv_iload_n hx hb dX6_discount_0 rfl (lv_at hl 1 rfl) ?_
  refine lv_iconst (v := nI 1) hx hb dX6_discount_1 (by decide) ?_
  refine ci_icmp_lt (X := n.toInt) (Y := ((1 : Nat) : Int)) (tgt := 21) hx hb rfl (sg_n (by omega)) dX6_discount_2 rfl (fun h2 => ?_) (fun h2 => ?_)
  · refine lv_iconst (v := nI 0) hx hb dX6_discount_21 (by decide) ?_
    exact W.zret hx hb hr rfl (fun tZ ht hW => ⟨_, rfl, rfl, ht⟩) (fun q h => by cases h) dX6_discount_22
  · refine lv_iload_n hx hb dX6_discount_5 rfl (lv_at hl 1 rfl) ?_
    refine lv_iconst (v := nI 3) hx hb dX6_discount_6 (by decide) ?_
    refine ci_icmp_gt (X := n.toInt) (Y := ((3 : Nat) : Int)) (tgt := 21) hx hb rfl (sg_n (by omega)) dX6_discount_7 rfl (fun h7 => ?_) (fun h7 => ?_)
    · refine lv_iconst (v := nI 0) hx hb dX6_discount_21 (by decide) ?_
      exact W.zret hx hb hr rfl (fun tZ ht hW => ⟨_, rfl, rfl, ht⟩) (fun q h => by cases h) dX6_discount_22
    · refine lv_iload_n hx hb dX6_discount_10 rfl (lv_at hl 2 rfl) ?_
      refine lv_iconst (v := nI 1) hx hb dX6_discount_11 (by decide) ?_
      refine ci_icmp_lt (X := v.toInt) (Y := ((1 : Nat) : Int)) (tgt := 21) hx hb rfl (sg_n (by omega)) dX6_discount_12 rfl (fun h12 => ?_) (fun h12 => ?_)
      · refine lv_iconst (v := nI 0) hx hb dX6_discount_21 (by decide) ?_
        exact W.zret hx hb hr rfl (fun tZ ht hW => ⟨_, rfl, rfl, ht⟩) (fun q h => by cases h) dX6_discount_22
      · refine lv_iload_n hx hb dX6_discount_15 rfl (lv_at hl 2 rfl) ?_
        refine lv_bipush (v := nI 8) hx hb dX6_discount_16 (by decide) ?_
        refine ci_icmp_le (X := v.toInt) (Y := ((8 : Nat) : Int)) (tgt := 23) hx hb rfl (sg_n (by omega)) dX6_discount_18 rfl (fun h18 => by exfalso; omega) (fun h18 => ?_)
        refine lv_iconst (v := nI 0) hx hb dX6_discount_21 (by decide) ?_
        exact W.zret hx hb hr rfl (fun tZ ht hW => ⟨_, rfl, rfl, ht⟩) (fun q h => by cases h) dX6_discount_22
set_option maxHeartbeats 4000000 in
set_option maxRecDepth 100000 in
theorem c_X6_discount (l : Launch) (D : va_G) (cI cO : ClassId) (m : Nat) (me : Nat) (ml : Nat) (mw : Nat) (wa : Nat) (wb : Nat) (wf : Nat) (li : Nat) (ord : Nat) (ns : Nat) (ev : Int32) (y0 : Int64) (y1 : Int64) (ge : Nat → Int32) (gL : Nat → Int32) (gW : Nat → Int32) (ga : Nat → Int32) (gb : Nat → Int32) (gf : Nat → Int32) (lim : Nat → Int32) (k : Nat) (v : Nat) (hk : 1 ≤ k ∧ k ≤ 3) (hv : 1 ≤ v ∧ v ≤ 8) : Met l yX6_discount (.code yX6_discount cX6_discount 3 (some .boolean) :: sgT) ({ frames := 0, cells := 0, slots := 0, locals := 0 }) (sgWc D cI cO [.ref m, .int (nI k), .int (nI v)] [(m, .inr (6, [.int (nI ord), .ref me, .int (nI ns), .ref ml, .ref mw, .int ev, .ref wa, .ref wb, .ref wf, .long y0, .long y1, .ref li])), (me, .inl (cI, 4, .inl ge)), (ml, .inl (cI, 9, .inl gL)), (mw, .inl (cI, 72, .inl gW)), (wa, .inl (cI, 72, .inl ga)), (wb, .inl (cI, 72, .inl gb)), (wf, .inl (cI, 72, .inl gf)), (li, .inl (cI, 240, .inl lim))]) (va_Qi (fun (r : Int32) (uZ : Unit) => r = nI 1) (fun uZ t => va_P D vwCl [(m, .inr (6, [.int (nI ord), .ref me, .int (nI ns), .ref ml, .ref mw, .int ev, .ref wa, .ref wb, .ref wf, .long y0, .long y1, .ref li])), (me, .inl (cI, 4, .inl (upd ge k (nI v)))), (ml, .inl (cI, 9, .inl gL)), (mw, .inl (cI, 72, .inl gW)), (wa, .inl (cI, 72, .inl ga)), (wb, .inl (cI, 72, .inl gb)), (wf, .inl (cI, 72, .inl gf)), (li, .inl (cI, 240, .inl lim))] t.heap) (xA [(m, .inr (6, [.int (nI ord), .ref me, .int (nI ns), .ref ml, .ref mw, .int ev, .ref wa, .ref wb, .ref wf, .long y0, .long y1, .ref li])), (me, .inl (cI, 4, .inl ge)), (ml, .inl (cI, 9, .inl gL)), (mw, .inl (cI, 72, .inl gW)), (wa, .inl (cI, 72, .inl ga)), (wb, .inl (cI, 72, .inl gb)), (wf, .inl (cI, 72, .inl gf)), (li, .inl (cI, 240, .inl lim))])) 0 0 (xA [(m, .inr (6, [.int (nI ord), .ref me, .int (nI ns), .ref ml, .ref mw, .int ev, .ref wa, .ref wb, .ref wf, .long y0, .long y1, .ref li])), (me, .inl (cI, 4, .inl ge)), (ml, .inl (cI, 9, .inl gL)), (mw, .inl (cI, 72, .inl gW)), (wa, .inl (cI, 72, .inl ga)), (wb, .inl (cI, 72, .inl gb)), (wf, .inl (cI, 72, .inl gf)), (li, .inl (cI, 240, .inl lim))]) := by
  refine Met.ofW (cc := cX6_discount) (maxL := 3) (ret := (some .boolean)) (by decide) rfl ?_
  intro pZ eZ sZ mZ argsZ belowZ methZ cZ s₁ BZ hml hv
  obtain ⟨rfl, hP, hK, hD0⟩ := hv
  have hx := BZ.exec
  have hb := BZ.bytes
  have hr := BZ.returns
  have hts : ∀ wZ ∈ sgT, wZ.before ([.ref m, .int (nI k), .int (nI v)] : List Value).toArray sZ = true := fun wZ h => atoms_spec (ws := (.code yX6_discount cX6_discount 3 (some .boolean) :: sgT)) BZ.pre wZ (List.mem_cons_of_mem _ h)
  have hown : sZ.vm.findClass RX6 = some mZ.cls := findClass_of_methodNamed BZ.named
  have hlocks := BZ.notSynchronized
  have hD : va_D (xA [(m, .inr (6, [.int (nI ord), .ref me, .int (nI ns), .ref ml, .ref mw, .int ev, .ref wa, .ref wb, .ref wf, .long y0, .long y1, .ref li])), (me, .inl (cI, 4, .inl ge)), (ml, .inl (cI, 9, .inl gL)), (mw, .inl (cI, 72, .inl gW)), (wa, .inl (cI, 72, .inl ga)), (wb, .inl (cI, 72, .inl gb)), (wf, .inl (cI, 72, .inl gf)), (li, .inl (cI, 240, .inl lim))]) [(m, .inr (6, [.int (nI ord), .ref me, .int (nI ns), .ref ml, .ref mw, .int ev, .ref wa, .ref wb, .ref wf, .long y0, .long y1, .ref li])), (me, .inl (cI, 4, .inl ge)), (ml, .inl (cI, 9, .inl gL)), (mw, .inl (cI, 72, .inl gW)), (wa, .inl (cI, 72, .inl ga)), (wb, .inl (cI, 72, .inl gb)), (wf, .inl (cI, 72, .inl gf)), (li, .inl (cI, 240, .inl lim))] := ⟨hD0.1, fun k q h => ⟨k, q.2, h⟩⟩
  generalize hAe : xA [(m, .inr (6, [.int (nI ord), .ref me, .int (nI ns), .ref ml, .ref mw, .int ev, .ref wa, .ref wb, .ref wf, .long y0, .long y1, .ref li])), (me, .inl (cI, 4, .inl ge)), (ml, .inl (cI, 9, .inl gL)), (mw, .inl (cI, 72, .inl gW)), (wa, .inl (cI, 72, .inl ga)), (wb, .inl (cI, 72, .inl gb)), (wf, .inl (cI, 72, .inl gf)), (li, .inl (cI, 240, .inl lim))] = A at hD ⊢
  have hS : va_S A sZ.heap sZ.heap [] := va_S.rf
  have hl := lv_entry ([.ref m, .int (nI k), .int (nI v)]) (n := 3) (Nat.le_of_ble_eq_true rfl)
  rw [lg_entry_eq]
  generalize (lg_sl ([.ref m, .int (nI k), .int (nI v)]) ++ List.replicate (3 - (lg_sl ([.ref m, .int (nI k), .int (nI v)])).length) Slot.unset).toArray = ls at hl ⊢
  have hl : lv_has ls 3 [(0, .ref m), (1, .int (nI k)), (2, .int (nI v))] := hl
  have hP : va_P D vwCl [(m, .inr (6, [.int (nI ord), .ref me, .int (nI ns), .ref ml, .ref mw, .int ev, .ref wa, .ref wb, .ref wf, .long y0, .long y1, .ref li])), (me, .inl (cI, 4, .inl ge)), (ml, .inl (cI, 9, .inl gL)), (mw, .inl (cI, 72, .inl gW)), (wa, .inl (cI, 72, .inl ga)), (wb, .inl (cI, 72, .inl gb)), (wf, .inl (cI, 72, .inl gf)), (li, .inl (cI, 240, .inl lim))] sZ.heap := hP
  refine lv_iload_n hx hb dX6_discount_0 rfl (lv_at hl 1 rfl) ?_
  refine lv_iconst (v := nI 1) hx hb dX6_discount_1 (by decide) ?_
  refine ci_icmp_lt (X := ((k : Nat) : Int)) (Y := ((1 : Nat) : Int)) (tgt := 21) hx hb (sg_n (by omega)) (sg_n (by omega)) dX6_discount_2 rfl (fun h2 => by exfalso; omega) (fun h2 => ?_)
  refine lv_iload_n hx hb dX6_discount_5 rfl (lv_at hl 1 rfl) ?_
  refine lv_iconst (v := nI 3) hx hb dX6_discount_6 (by decide) ?_
  refine ci_icmp_gt (X := ((k : Nat) : Int)) (Y := ((3 : Nat) : Int)) (tgt := 21) hx hb (sg_n (by omega)) (sg_n (by omega)) dX6_discount_7 rfl (fun h7 => by exfalso; omega) (fun h7 => ?_)
  refine lv_iload_n hx hb dX6_discount_10 rfl (lv_at hl 2 rfl) ?_
  refine lv_iconst (v := nI 1) hx hb dX6_discount_11 (by decide) ?_
  refine ci_icmp_lt (X := ((v : Nat) : Int)) (Y := ((1 : Nat) : Int)) (tgt := 21) hx hb (sg_n (by omega)) (sg_n (by omega)) dX6_discount_12 rfl (fun h12 => by exfalso; omega) (fun h12 => ?_)
  refine lv_iload_n hx hb dX6_discount_15 rfl (lv_at hl 2 rfl) ?_
  refine lv_bipush (v := nI 8) hx hb dX6_discount_16 (by decide) ?_
  refine ci_icmp_le (X := ((v : Nat) : Int)) (Y := ((8 : Nat) : Int)) (tgt := 23) hx hb (sg_n (by omega)) (sg_n (by omega)) dX6_discount_18 rfl (fun h18 => ?_) (fun h18 => by exfalso; omega)
  refine lv_aload_n hx hb dX6_discount_23 rfl (lv_at hl 0 rfl) ?_
  refine va_get (D := D) (ci := 6) (v := .ref me) (C := RX6) (T := TX6) (N := 12) hx hb hts hinX6 hown hK.1 hP 0 rfl rfl 1 (by decide) (hts _ fl_X6_13) (fun _ h9 => h9) rfl dX6_discount_24 ?_
  refine lv_iload_n hx hb dX6_discount_27 rfl (lv_at hl 1 rfl) ?_
  refine lv_iload_n hx hb dX6_discount_28 rfl (lv_at hl 2 rfl) ?_
  refine n_iast hx hb hK.1 hP hD hS 1 0 rfl rfl (by omega) (by omega) dX6_discount_29 (fun H locs hP hD hS => ?_)
  have hP : va_P D vwCl [(m, .inr (6, [.int (nI ord), .ref me, .int (nI ns), .ref ml, .ref mw, .int ev, .ref wa, .ref wb, .ref wf, .long y0, .long y1, .ref li])), (me, .inl (cI, 4, .inl (upd ge k (nI v)))), (ml, .inl (cI, 9, .inl gL)), (mw, .inl (cI, 72, .inl gW)), (wa, .inl (cI, 72, .inl ga)), (wb, .inl (cI, 72, .inl gb)), (wf, .inl (cI, 72, .inl gf)), (li, .inl (cI, 240, .inl lim))] H := hP
  have hD : va_D A [(m, .inr (6, [.int (nI ord), .ref me, .int (nI ns), .ref ml, .ref mw, .int ev, .ref wa, .ref wb, .ref wf, .long y0, .long y1, .ref li])), (me, .inl (cI, 4, .inl (upd ge k (nI v)))), (ml, .inl (cI, 9, .inl gL)), (mw, .inl (cI, 72, .inl gW)), (wa, .inl (cI, 72, .inl ga)), (wb, .inl (cI, 72, .inl gb)), (wf, .inl (cI, 72, .inl gf)), (li, .inl (cI, 240, .inl lim))] := hD
  refine lv_iconst (v := nI 1) hx hb dX6_discount_30 (by decide) ?_
  exact W.zret hx hb hr rfl (fun tZ ht hW => ⟨⟨_, (), rfl, rfl, by show va_P D vwCl _ tZ.heap; rw [ht]; exact hP⟩, hS.F ht⟩) hS.2.2 dX6_discount_31
set_option maxHeartbeats 4000000 in
set_option maxRecDepth 100000 in
theorem r_word_bad (l : Launch) (D : va_G) (cI cO : ClassId) (m : Nat) (me : Nat) (ml : Nat) (mw : Nat) (wa : Nat) (wb : Nat) (wf : Nat) (li : Nat) (ord : Nat) (ns : Nat) (ev : Int32) (y0 : Int64) (y1 : Int64) (ge : Nat → Int32) (gL : Nat → Int32) (gW : Nat → Int32) (ga : Nat → Int32) (gb : Nat → Int32) (gf : Nat → Int32) (lim : Nat → Int32) (x : Int32) (hxb : x.toInt < 0 ∨ 5 ≤ x.toInt) : Met l yX6_word (.code yX6_word cX6_word 3 (some .boolean) :: sgT) ({ frames := 0, cells := 0, slots := 0, locals := 0 }) (sgPc D cI cO [.ref m, .int x] [(m, .inr (6, [.int (nI ord), .ref me, .int (nI ns), .ref ml, .ref mw, .int ev, .ref wa, .ref wb, .ref wf, .long y0, .long y1, .ref li])), (me, .inl (cI, 4, .inl ge)), (ml, .inl (cI, 9, .inl gL)), (mw, .inl (cI, 72, .inl gW)), (wa, .inl (cI, 72, .inl ga)), (wb, .inl (cI, 72, .inl gb)), (wf, .inl (cI, 72, .inl gf)), (li, .inl (cI, 240, .inl lim))]) (vp_Si (fun r => r = nI 0)) 0 0 (fun _ => False) := by
  refine Met.ofW (cc := cX6_word) (maxL := 3) (ret := (some .boolean)) (by decide) rfl ?_
  intro pZ eZ sZ mZ argsZ belowZ methZ cZ s₁ BZ hml hv
  obtain ⟨rfl, hP, hK⟩ := hv
  have hx := BZ.exec
  have hb := BZ.bytes
  have hr := BZ.returns
  have hts : ∀ wZ ∈ sgT, wZ.before ([.ref m, .int x] : List Value).toArray sZ = true := fun wZ h => atoms_spec (ws := (.code yX6_word cX6_word 3 (some .boolean) :: sgT)) BZ.pre wZ (List.mem_cons_of_mem _ h)
  have hown : sZ.vm.findClass RX6 = some mZ.cls := findClass_of_methodNamed BZ.named
  have hlocks := BZ.notSynchronized
  have hl := lv_entry ([.ref m, .int x]) (n := 3) (Nat.le_of_ble_eq_true rfl)
  rw [lg_entry_eq]
  generalize (lg_sl ([.ref m, .int x]) ++ List.replicate (3 - (lg_sl ([.ref m, .int x])).length) Slot.unset).toArray = ls at hl ⊢
  have hl : lv_has ls 3 [(0, .ref m), (1, .int x)] := hl
  refine lv_aload_n hx hb dX6_word_0 rfl (lv_at hl 0 rfl) ?_
  refine va_get (D := D) (ci := 6) (v := .int (nI ns)) (C := RX6) (T := TX6) (N := 12) hx hb hts hinX6 hown hK.1 hP 0 rfl rfl 2 (by decide) (hts _ fl_X6_35) (fun _ h9 => h9) rfl dX6_word_1 ?_
  refine lv_istore_n hx hb dX6_word_4 rfl hl (by decide) rfl (fun ls hl => ?_)
  have hl : lv_has ls 3 [(2, .int (nI ns)), (0, .ref m), (1, .int x)] := hl
  refine lv_iload_n hx hb dX6_word_5 rfl (lv_at hl 2 rfl) ?_
  refine ci_if_lt (X := x.toInt) (tgt := 25) hx hb rfl dX6_word_6 rfl (fun h6 => ?_) (fun h6 => ?_)
  · refine lv_iconst (v := nI 0) hx hb dX6_word_25 (by decide) ?_
    exact W.zret hx hb hr rfl (fun tZ ht hW => ⟨_, rfl, rfl, ht⟩) (fun q h => by cases h) dX6_word_26
  · refine lv_iload_n hx hb dX6_word_9 rfl (lv_at hl 2 rfl) ?_
    refine lv_iconst (v := nI 4) hx hb dX6_word_10 (by decide) ?_
    refine ci_icmp_gt (X := x.toInt) (Y := ((4 : Nat) : Int)) (tgt := 25) hx hb rfl (sg_n (by omega)) dX6_word_11 rfl (fun h11 => ?_) (fun h11 => by exfalso; omega)
    refine lv_iconst (v := nI 0) hx hb dX6_word_25 (by decide) ?_
    exact W.zret hx hb hr rfl (fun tZ ht hW => ⟨_, rfl, rfl, ht⟩) (fun q h => by cases h) dX6_word_26
set_option maxHeartbeats 4000000 in
set_option maxRecDepth 100000 in
theorem r_word_full (l : Launch) (D : va_G) (cI cO : ClassId) (m : Nat) (me : Nat) (ml : Nat) (mw : Nat) (wa : Nat) (wb : Nat) (wf : Nat) (li : Nat) (ord : Nat) (ns : Nat) (ev : Int32) (y0 : Int64) (y1 : Int64) (ge : Nat → Int32) (gL : Nat → Int32) (gW : Nat → Int32) (ga : Nat → Int32) (gb : Nat → Int32) (gf : Nat → Int32) (lim : Nat → Int32) (x : Int32) (hxb : 0 ≤ x.toInt ∧ x.toInt < 5) (hns : ns ≤ 8) (hL : gL ns = nI 8) : Met l yX6_word (.code yX6_word cX6_word 3 (some .boolean) :: sgT) ({ frames := 0, cells := 0, slots := 0, locals := 0 }) (sgPc D cI cO [.ref m, .int x] [(m, .inr (6, [.int (nI ord), .ref me, .int (nI ns), .ref ml, .ref mw, .int ev, .ref wa, .ref wb, .ref wf, .long y0, .long y1, .ref li])), (me, .inl (cI, 4, .inl ge)), (ml, .inl (cI, 9, .inl gL)), (mw, .inl (cI, 72, .inl gW)), (wa, .inl (cI, 72, .inl ga)), (wb, .inl (cI, 72, .inl gb)), (wf, .inl (cI, 72, .inl gf)), (li, .inl (cI, 240, .inl lim))]) (vp_Si (fun r => r = nI 0)) 0 0 (fun _ => False) := by
  refine Met.ofW (cc := cX6_word) (maxL := 3) (ret := (some .boolean)) (by decide) rfl ?_
  intro pZ eZ sZ mZ argsZ belowZ methZ cZ s₁ BZ hml hv
  obtain ⟨rfl, hP, hK⟩ := hv
  have hx := BZ.exec
  have hb := BZ.bytes
  have hr := BZ.returns
  have hts : ∀ wZ ∈ sgT, wZ.before ([.ref m, .int x] : List Value).toArray sZ = true := fun wZ h => atoms_spec (ws := (.code yX6_word cX6_word 3 (some .boolean) :: sgT)) BZ.pre wZ (List.mem_cons_of_mem _ h)
  have hown : sZ.vm.findClass RX6 = some mZ.cls := findClass_of_methodNamed BZ.named
  have hlocks := BZ.notSynchronized
  have hl := lv_entry ([.ref m, .int x]) (n := 3) (Nat.le_of_ble_eq_true rfl)
  rw [lg_entry_eq]
  generalize (lg_sl ([.ref m, .int x]) ++ List.replicate (3 - (lg_sl ([.ref m, .int x])).length) Slot.unset).toArray = ls at hl ⊢
  have hl : lv_has ls 3 [(0, .ref m), (1, .int x)] := hl
  refine lv_aload_n hx hb dX6_word_0 rfl (lv_at hl 0 rfl) ?_
  refine va_get (D := D) (ci := 6) (v := .int (nI ns)) (C := RX6) (T := TX6) (N := 12) hx hb hts hinX6 hown hK.1 hP 0 rfl rfl 2 (by decide) (hts _ fl_X6_35) (fun _ h9 => h9) rfl dX6_word_1 ?_
  refine lv_istore_n hx hb dX6_word_4 rfl hl (by decide) rfl (fun ls hl => ?_)
  have hl : lv_has ls 3 [(2, .int (nI ns)), (0, .ref m), (1, .int x)] := hl
  refine lv_iload_n hx hb dX6_word_5 rfl (lv_at hl 2 rfl) ?_
  refine ci_if_lt (X := x.toInt) (tgt := 25) hx hb rfl dX6_word_6 rfl (fun h6 => by exfalso; omega) (fun h6 => ?_)
  refine lv_iload_n hx hb dX6_word_9 rfl (lv_at hl 2 rfl) ?_
  refine lv_iconst (v := nI 4) hx hb dX6_word_10 (by decide) ?_
  refine ci_icmp_gt (X := x.toInt) (Y := ((4 : Nat) : Int)) (tgt := 25) hx hb rfl (sg_n (by omega)) dX6_word_11 rfl (fun h11 => by exfalso; omega) (fun h11 => ?_)
  refine lv_aload_n hx hb dX6_word_14 rfl (lv_at hl 1 rfl) ?_
  refine va_get (D := D) (ci := 6) (v := .ref ml) (C := RX6) (T := TX6) (N := 12) hx hb hts hinX6 hown hK.1 hP 0 rfl rfl 3 (by decide) (hts _ fl_X6_17) (fun _ h9 => h9) rfl dX6_word_15 ?_
  refine lv_iload_n hx hb dX6_word_18 rfl (lv_at hl 0 rfl) ?_
  refine n_iald (v := nI 8) hx hb hK.1 hP 2 0 rfl rfl (by omega) (by omega) hL dX6_word_19 ?_
  refine lv_bipush (v := nI 8) hx hb dX6_word_20 (by decide) ?_
  refine ci_icmp_ne (X := ((8 : Nat) : Int)) (Y := ((8 : Nat) : Int)) (tgt := 27) hx hb (sg_n (by omega)) (sg_n (by omega)) dX6_word_22 rfl (fun h22 => by exfalso; omega) (fun h22 => ?_)
  refine lv_iconst (v := nI 0) hx hb dX6_word_25 (by decide) ?_
  exact W.zret hx hb hr rfl (fun tZ ht hW => ⟨_, rfl, rfl, ht⟩) (fun q h => by cases h) dX6_word_26
set_option maxHeartbeats 4000000 in
set_option maxRecDepth 100000 in
theorem c_X6_word (l : Launch) (D : va_G) (cI cO : ClassId) (m : Nat) (me : Nat) (ml : Nat) (mw : Nat) (wa : Nat) (wb : Nat) (wf : Nat) (li : Nat) (ord : Nat) (ns : Nat) (ev : Int32) (y0 : Int64) (y1 : Int64) (ge : Nat → Int32) (gL : Nat → Int32) (gW : Nat → Int32) (ga : Nat → Int32) (gb : Nat → Int32) (gf : Nat → Int32) (lim : Nat → Int32) (n : Nat) (x : Int32) (hxb : 0 ≤ x.toInt ∧ x.toInt < 5) (hns : ns ≤ 8) (hL : gL ns = nI n) (hn : n < 8) : Met l yX6_word (.code yX6_word cX6_word 3 (some .boolean) :: sgT) ({ frames := 0, cells := 0, slots := 0, locals := 0 }) (sgWc D cI cO [.ref m, .int x] [(m, .inr (6, [.int (nI ord), .ref me, .int (nI ns), .ref ml, .ref mw, .int ev, .ref wa, .ref wb, .ref wf, .long y0, .long y1, .ref li])), (me, .inl (cI, 4, .inl ge)), (ml, .inl (cI, 9, .inl gL)), (mw, .inl (cI, 72, .inl gW)), (wa, .inl (cI, 72, .inl ga)), (wb, .inl (cI, 72, .inl gb)), (wf, .inl (cI, 72, .inl gf)), (li, .inl (cI, 240, .inl lim))]) (va_Qi (fun (r : Int32) (uZ : Unit) => r = nI 1) (fun uZ t => va_P D vwCl [(m, .inr (6, [.int (nI ord), .ref me, .int (nI ns), .ref ml, .ref mw, .int ev, .ref wa, .ref wb, .ref wf, .long y0, .long y1, .ref li])), (me, .inl (cI, 4, .inl ge)), (ml, .inl (cI, 9, .inl (upd gL ns (nI (n + 1))))), (mw, .inl (cI, 72, .inl (upd gW (8 * ns + n) x))), (wa, .inl (cI, 72, .inl ga)), (wb, .inl (cI, 72, .inl gb)), (wf, .inl (cI, 72, .inl gf)), (li, .inl (cI, 240, .inl lim))] t.heap) (xA [(m, .inr (6, [.int (nI ord), .ref me, .int (nI ns), .ref ml, .ref mw, .int ev, .ref wa, .ref wb, .ref wf, .long y0, .long y1, .ref li])), (me, .inl (cI, 4, .inl ge)), (ml, .inl (cI, 9, .inl gL)), (mw, .inl (cI, 72, .inl gW)), (wa, .inl (cI, 72, .inl ga)), (wb, .inl (cI, 72, .inl gb)), (wf, .inl (cI, 72, .inl gf)), (li, .inl (cI, 240, .inl lim))])) 0 0 (xA [(m, .inr (6, [.int (nI ord), .ref me, .int (nI ns), .ref ml, .ref mw, .int ev, .ref wa, .ref wb, .ref wf, .long y0, .long y1, .ref li])), (me, .inl (cI, 4, .inl ge)), (ml, .inl (cI, 9, .inl gL)), (mw, .inl (cI, 72, .inl gW)), (wa, .inl (cI, 72, .inl ga)), (wb, .inl (cI, 72, .inl gb)), (wf, .inl (cI, 72, .inl gf)), (li, .inl (cI, 240, .inl lim))]) := by
  refine Met.ofW (cc := cX6_word) (maxL := 3) (ret := (some .boolean)) (by decide) rfl ?_
  intro pZ eZ sZ mZ argsZ belowZ methZ cZ s₁ BZ hml hv
  obtain ⟨rfl, hP, hK, hD0⟩ := hv
  have hx := BZ.exec
  have hb := BZ.bytes
  have hr := BZ.returns
  have hts : ∀ wZ ∈ sgT, wZ.before ([.ref m, .int x] : List Value).toArray sZ = true := fun wZ h => atoms_spec (ws := (.code yX6_word cX6_word 3 (some .boolean) :: sgT)) BZ.pre wZ (List.mem_cons_of_mem _ h)
  have hown : sZ.vm.findClass RX6 = some mZ.cls := findClass_of_methodNamed BZ.named
  have hlocks := BZ.notSynchronized
  have hD : va_D (xA [(m, .inr (6, [.int (nI ord), .ref me, .int (nI ns), .ref ml, .ref mw, .int ev, .ref wa, .ref wb, .ref wf, .long y0, .long y1, .ref li])), (me, .inl (cI, 4, .inl ge)), (ml, .inl (cI, 9, .inl gL)), (mw, .inl (cI, 72, .inl gW)), (wa, .inl (cI, 72, .inl ga)), (wb, .inl (cI, 72, .inl gb)), (wf, .inl (cI, 72, .inl gf)), (li, .inl (cI, 240, .inl lim))]) [(m, .inr (6, [.int (nI ord), .ref me, .int (nI ns), .ref ml, .ref mw, .int ev, .ref wa, .ref wb, .ref wf, .long y0, .long y1, .ref li])), (me, .inl (cI, 4, .inl ge)), (ml, .inl (cI, 9, .inl gL)), (mw, .inl (cI, 72, .inl gW)), (wa, .inl (cI, 72, .inl ga)), (wb, .inl (cI, 72, .inl gb)), (wf, .inl (cI, 72, .inl gf)), (li, .inl (cI, 240, .inl lim))] := ⟨hD0.1, fun k q h => ⟨k, q.2, h⟩⟩
  generalize hAe : xA [(m, .inr (6, [.int (nI ord), .ref me, .int (nI ns), .ref ml, .ref mw, .int ev, .ref wa, .ref wb, .ref wf, .long y0, .long y1, .ref li])), (me, .inl (cI, 4, .inl ge)), (ml, .inl (cI, 9, .inl gL)), (mw, .inl (cI, 72, .inl gW)), (wa, .inl (cI, 72, .inl ga)), (wb, .inl (cI, 72, .inl gb)), (wf, .inl (cI, 72, .inl gf)), (li, .inl (cI, 240, .inl lim))] = A at hD ⊢
  have hS : va_S A sZ.heap sZ.heap [] := va_S.rf
  have hl := lv_entry ([.ref m, .int x]) (n := 3) (Nat.le_of_ble_eq_true rfl)
  rw [lg_entry_eq]
  generalize (lg_sl ([.ref m, .int x]) ++ List.replicate (3 - (lg_sl ([.ref m, .int x])).length) Slot.unset).toArray = ls at hl ⊢
  have hl : lv_has ls 3 [(0, .ref m), (1, .int x)] := hl
  have hP : va_P D vwCl [(m, .inr (6, [.int (nI ord), .ref me, .int (nI ns), .ref ml, .ref mw, .int ev, .ref wa, .ref wb, .ref wf, .long y0, .long y1, .ref li])), (me, .inl (cI, 4, .inl ge)), (ml, .inl (cI, 9, .inl gL)), (mw, .inl (cI, 72, .inl gW)), (wa, .inl (cI, 72, .inl ga)), (wb, .inl (cI, 72, .inl gb)), (wf, .inl (cI, 72, .inl gf)), (li, .inl (cI, 240, .inl lim))] sZ.heap := hP
  refine lv_aload_n hx hb dX6_word_0 rfl (lv_at hl 0 rfl) ?_
  refine va_get (D := D) (ci := 6) (v := .int (nI ns)) (C := RX6) (T := TX6) (N := 12) hx hb hts hinX6 hown hK.1 hP 0 rfl rfl 2 (by decide) (hts _ fl_X6_35) (fun _ h9 => h9) rfl dX6_word_1 ?_
  refine lv_istore_n hx hb dX6_word_4 rfl hl (by decide) rfl (fun ls hl => ?_)
  have hl : lv_has ls 3 [(2, .int (nI ns)), (0, .ref m), (1, .int x)] := hl
  refine lv_iload_n hx hb dX6_word_5 rfl (lv_at hl 2 rfl) ?_
  refine ci_if_lt (X := x.toInt) (tgt := 25) hx hb rfl dX6_word_6 rfl (fun h6 => by exfalso; omega) (fun h6 => ?_)
  refine lv_iload_n hx hb dX6_word_9 rfl (lv_at hl 2 rfl) ?_
  refine lv_iconst (v := nI 4) hx hb dX6_word_10 (by decide) ?_
  refine ci_icmp_gt (X := x.toInt) (Y := ((4 : Nat) : Int)) (tgt := 25) hx hb rfl (sg_n (by omega)) dX6_word_11 rfl (fun h11 => by exfalso; omega) (fun h11 => ?_)
  refine lv_aload_n hx hb dX6_word_14 rfl (lv_at hl 1 rfl) ?_
  refine va_get (D := D) (ci := 6) (v := .ref ml) (C := RX6) (T := TX6) (N := 12) hx hb hts hinX6 hown hK.1 hP 0 rfl rfl 3 (by decide) (hts _ fl_X6_17) (fun _ h9 => h9) rfl dX6_word_15 ?_
  refine lv_iload_n hx hb dX6_word_18 rfl (lv_at hl 0 rfl) ?_
  refine n_iald (v := nI n) hx hb hK.1 hP 2 0 rfl rfl (by omega) (by omega) hL dX6_word_19 ?_
  refine lv_bipush (v := nI 8) hx hb dX6_word_20 (by decide) ?_
  refine ci_icmp_ne (X := ((n : Nat) : Int)) (Y := ((8 : Nat) : Int)) (tgt := 27) hx hb (sg_n (by omega)) (sg_n (by omega)) dX6_word_22 rfl (fun h22 => ?_) (fun h22 => by exfalso; omega)
  refine lv_aload_n hx hb dX6_word_27 rfl (lv_at hl 1 rfl) ?_
  refine va_get (D := D) (ci := 6) (v := .ref mw) (C := RX6) (T := TX6) (N := 12) hx hb hts hinX6 hown hK.1 hP 0 rfl rfl 4 (by decide) (hts _ fl_X6_20) (fun _ h9 => h9) rfl dX6_word_28 ?_
  refine lv_bipush (v := nI 8) hx hb dX6_word_31 (by decide) ?_
  refine lv_iload_n hx hb dX6_word_33 rfl (lv_at hl 0 rfl) ?_
  refine n_imul hx hb dX6_word_34 ?_
  refine lv_aload_n hx hb dX6_word_35 rfl (lv_at hl 1 rfl) ?_
  refine va_get (D := D) (ci := 6) (v := .ref ml) (C := RX6) (T := TX6) (N := 12) hx hb hts hinX6 hown hK.1 hP 0 rfl rfl 3 (by decide) (hts _ fl_X6_17) (fun _ h9 => h9) rfl dX6_word_36 ?_
  refine lv_iload_n hx hb dX6_word_39 rfl (lv_at hl 0 rfl) ?_
  refine n_iald (v := nI n) hx hb hK.1 hP 2 0 rfl rfl (by omega) (by omega) hL dX6_word_40 ?_
  refine n_iadd hx hb dX6_word_41 ?_
  refine lv_iload_n hx hb dX6_word_42 rfl (lv_at hl 2 rfl) ?_
  refine n_iast hx hb hK.1 hP hD hS 3 0 rfl rfl (by omega) (by omega) dX6_word_43 (fun H locs hP hD hS => ?_)
  have hP : va_P D vwCl [(m, .inr (6, [.int (nI ord), .ref me, .int (nI ns), .ref ml, .ref mw, .int ev, .ref wa, .ref wb, .ref wf, .long y0, .long y1, .ref li])), (me, .inl (cI, 4, .inl ge)), (ml, .inl (cI, 9, .inl gL)), (mw, .inl (cI, 72, .inl (upd gW ((8 * ns) + n) x))), (wa, .inl (cI, 72, .inl ga)), (wb, .inl (cI, 72, .inl gb)), (wf, .inl (cI, 72, .inl gf)), (li, .inl (cI, 240, .inl lim))] H := hP
  have hD : va_D A [(m, .inr (6, [.int (nI ord), .ref me, .int (nI ns), .ref ml, .ref mw, .int ev, .ref wa, .ref wb, .ref wf, .long y0, .long y1, .ref li])), (me, .inl (cI, 4, .inl ge)), (ml, .inl (cI, 9, .inl gL)), (mw, .inl (cI, 72, .inl (upd gW ((8 * ns) + n) x))), (wa, .inl (cI, 72, .inl ga)), (wb, .inl (cI, 72, .inl gb)), (wf, .inl (cI, 72, .inl gf)), (li, .inl (cI, 240, .inl lim))] := hD
  refine lv_aload_n hx hb dX6_word_44 rfl (lv_at hl 1 rfl) ?_
  refine va_get (D := D) (ci := 6) (v := .ref ml) (C := RX6) (T := TX6) (N := 12) hx hb hts hinX6 hown hK.1 hP 0 rfl rfl 3 (by decide) (hts _ fl_X6_17) (fun _ h9 => h9) rfl dX6_word_45 ?_
  refine lv_iload_n hx hb dX6_word_48 rfl (lv_at hl 0 rfl) ?_
  refine lv_aload_n hx hb dX6_word_49 rfl (lv_at hl 1 rfl) ?_
  refine va_get (D := D) (ci := 6) (v := .ref ml) (C := RX6) (T := TX6) (N := 12) hx hb hts hinX6 hown hK.1 hP 0 rfl rfl 3 (by decide) (hts _ fl_X6_17) (fun _ h9 => h9) rfl dX6_word_50 ?_
  refine lv_iload_n hx hb dX6_word_53 rfl (lv_at hl 0 rfl) ?_
  refine n_iald (v := nI n) hx hb hK.1 hP 2 0 rfl rfl (by omega) (by omega) hL dX6_word_54 ?_
  refine lv_iconst (v := nI 1) hx hb dX6_word_55 (by decide) ?_
  refine n_iadd hx hb dX6_word_56 ?_
  refine n_iast hx hb hK.1 hP hD hS 2 0 rfl rfl (by omega) (by omega) dX6_word_57 (fun H locs hP hD hS => ?_)
  have hP : va_P D vwCl [(m, .inr (6, [.int (nI ord), .ref me, .int (nI ns), .ref ml, .ref mw, .int ev, .ref wa, .ref wb, .ref wf, .long y0, .long y1, .ref li])), (me, .inl (cI, 4, .inl ge)), (ml, .inl (cI, 9, .inl (upd gL ns (nI (n + 1))))), (mw, .inl (cI, 72, .inl (upd gW ((8 * ns) + n) x))), (wa, .inl (cI, 72, .inl ga)), (wb, .inl (cI, 72, .inl gb)), (wf, .inl (cI, 72, .inl gf)), (li, .inl (cI, 240, .inl lim))] H := hP
  have hD : va_D A [(m, .inr (6, [.int (nI ord), .ref me, .int (nI ns), .ref ml, .ref mw, .int ev, .ref wa, .ref wb, .ref wf, .long y0, .long y1, .ref li])), (me, .inl (cI, 4, .inl ge)), (ml, .inl (cI, 9, .inl (upd gL ns (nI (n + 1))))), (mw, .inl (cI, 72, .inl (upd gW ((8 * ns) + n) x))), (wa, .inl (cI, 72, .inl ga)), (wb, .inl (cI, 72, .inl gb)), (wf, .inl (cI, 72, .inl gf)), (li, .inl (cI, 240, .inl lim))] := hD
  refine lv_iconst (v := nI 1) hx hb dX6_word_58 (by decide) ?_
  exact W.zret hx hb hr rfl (fun tZ ht hW => ⟨⟨_, (), rfl, rfl, by show va_P D vwCl _ tZ.heap; rw [ht]; exact hP⟩, hS.F ht⟩) hS.2.2 dX6_word_59
set_option maxHeartbeats 4000000 in
set_option maxRecDepth 100000 in
theorem r_learn_full (l : Launch) (D : va_G) (cI cO : ClassId) (m : Nat) (me : Nat) (ml : Nat) (mw : Nat) (wa : Nat) (wb : Nat) (wf : Nat) (li : Nat) (ord : Nat) (ns : Nat) (ev : Int32) (y0 : Int64) (y1 : Int64) (ge : Nat → Int32) (gL : Nat → Int32) (gW : Nat → Int32) (ga : Nat → Int32) (gb : Nat → Int32) (gf : Nat → Int32) (lim : Nat → Int32) (hns : ns = 8) : Met l yX6_learn (.code yX6_learn cX6_learn 1 (some .int) :: sgT) ({ frames := 0, cells := 0, slots := 0, locals := 0 }) (sgPc D cI cO [.ref m] [(m, .inr (6, [.int (nI ord), .ref me, .int (nI ns), .ref ml, .ref mw, .int ev, .ref wa, .ref wb, .ref wf, .long y0, .long y1, .ref li])), (me, .inl (cI, 4, .inl ge)), (ml, .inl (cI, 9, .inl gL)), (mw, .inl (cI, 72, .inl gW)), (wa, .inl (cI, 72, .inl ga)), (wb, .inl (cI, 72, .inl gb)), (wf, .inl (cI, 72, .inl gf)), (li, .inl (cI, 240, .inl lim))]) (vp_Si (fun r => r = -1)) 0 0 (fun _ => False) := by
  refine Met.ofW (cc := cX6_learn) (maxL := 1) (ret := (some .int)) (by decide) rfl ?_
  intro pZ eZ sZ mZ argsZ belowZ methZ cZ s₁ BZ hml hv
  obtain ⟨rfl, hP, hK⟩ := hv
  have hx := BZ.exec
  have hb := BZ.bytes
  have hr := BZ.returns
  have hts : ∀ wZ ∈ sgT, wZ.before ([.ref m] : List Value).toArray sZ = true := fun wZ h => atoms_spec (ws := (.code yX6_learn cX6_learn 1 (some .int) :: sgT)) BZ.pre wZ (List.mem_cons_of_mem _ h)
  have hown : sZ.vm.findClass RX6 = some mZ.cls := findClass_of_methodNamed BZ.named
  have hlocks := BZ.notSynchronized
  have hl := lv_entry ([.ref m]) (n := 1) (Nat.le_of_ble_eq_true rfl)
  rw [lg_entry_eq]
  generalize (lg_sl ([.ref m]) ++ List.replicate (1 - (lg_sl ([.ref m])).length) Slot.unset).toArray = ls at hl ⊢
  have hl : lv_has ls 1 [(0, .ref m)] := hl
  refine lv_aload_n hx hb dX6_learn_0 rfl (lv_at hl 0 rfl) ?_
  refine va_get (D := D) (ci := 6) (v := .int (nI ns)) (C := RX6) (T := TX6) (N := 12) hx hb hts hinX6 hown hK.1 hP 0 rfl rfl 2 (by decide) (hts _ fl_X6_35) (fun _ h9 => h9) rfl dX6_learn_1 ?_
  refine lv_bipush (v := nI 8) hx hb dX6_learn_4 (by decide) ?_
  refine ci_icmp_ne (X := ((ns : Nat) : Int)) (Y := ((8 : Nat) : Int)) (tgt := 11) hx hb (sg_n (by omega)) (sg_n (by omega)) dX6_learn_6 rfl (fun h6 => by exfalso; omega) (fun h6 => ?_)
  refine lv_iconst (v := -1) hx hb dX6_learn_9 (by decide) ?_
  exact W.iret hx hb hr (fun tZ ht hW => ⟨_, rfl, rfl, ht⟩) (fun q h => by cases h) dX6_learn_10
set_option maxHeartbeats 4000000 in
set_option maxRecDepth 100000 in
theorem c_X6_learn (l : Launch) (D : va_G) (cI cO : ClassId) (m : Nat) (me : Nat) (ml : Nat) (mw : Nat) (wa : Nat) (wb : Nat) (wf : Nat) (li : Nat) (ord : Nat) (ns : Nat) (ev : Int32) (y0 : Int64) (y1 : Int64) (ge : Nat → Int32) (gL : Nat → Int32) (gW : Nat → Int32) (ga : Nat → Int32) (gb : Nat → Int32) (gf : Nat → Int32) (lim : Nat → Int32) (hns : ns < 8) : Met l yX6_learn (.code yX6_learn cX6_learn 1 (some .int) :: sgT) ({ frames := 0, cells := 0, slots := 0, locals := 0 }) (sgWc D cI cO [.ref m] [(m, .inr (6, [.int (nI ord), .ref me, .int (nI ns), .ref ml, .ref mw, .int ev, .ref wa, .ref wb, .ref wf, .long y0, .long y1, .ref li])), (me, .inl (cI, 4, .inl ge)), (ml, .inl (cI, 9, .inl gL)), (mw, .inl (cI, 72, .inl gW)), (wa, .inl (cI, 72, .inl ga)), (wb, .inl (cI, 72, .inl gb)), (wf, .inl (cI, 72, .inl gf)), (li, .inl (cI, 240, .inl lim))]) (va_Qi (fun (r : Int32) (uZ : Unit) => r = nI (ns + 1)) (fun uZ t => va_P D vwCl [(m, .inr (6, [.int (nI ord), .ref me, .int (nI (ns + 1)), .ref ml, .ref mw, .int ev, .ref wa, .ref wb, .ref wf, .long y0, .long y1, .ref li])), (me, .inl (cI, 4, .inl ge)), (ml, .inl (cI, 9, .inl (upd gL (ns + 1) (nI 0)))), (mw, .inl (cI, 72, .inl gW)), (wa, .inl (cI, 72, .inl ga)), (wb, .inl (cI, 72, .inl gb)), (wf, .inl (cI, 72, .inl gf)), (li, .inl (cI, 240, .inl lim))] t.heap) (xA [(m, .inr (6, [.int (nI ord), .ref me, .int (nI ns), .ref ml, .ref mw, .int ev, .ref wa, .ref wb, .ref wf, .long y0, .long y1, .ref li])), (me, .inl (cI, 4, .inl ge)), (ml, .inl (cI, 9, .inl gL)), (mw, .inl (cI, 72, .inl gW)), (wa, .inl (cI, 72, .inl ga)), (wb, .inl (cI, 72, .inl gb)), (wf, .inl (cI, 72, .inl gf)), (li, .inl (cI, 240, .inl lim))])) 0 0 (xA [(m, .inr (6, [.int (nI ord), .ref me, .int (nI ns), .ref ml, .ref mw, .int ev, .ref wa, .ref wb, .ref wf, .long y0, .long y1, .ref li])), (me, .inl (cI, 4, .inl ge)), (ml, .inl (cI, 9, .inl gL)), (mw, .inl (cI, 72, .inl gW)), (wa, .inl (cI, 72, .inl ga)), (wb, .inl (cI, 72, .inl gb)), (wf, .inl (cI, 72, .inl gf)), (li, .inl (cI, 240, .inl lim))]) := by
  refine Met.ofW (cc := cX6_learn) (maxL := 1) (ret := (some .int)) (by decide) rfl ?_
  intro pZ eZ sZ mZ argsZ belowZ methZ cZ s₁ BZ hml hv
  obtain ⟨rfl, hP, hK, hD0⟩ := hv
  have hx := BZ.exec
  have hb := BZ.bytes
  have hr := BZ.returns
  have hts : ∀ wZ ∈ sgT, wZ.before ([.ref m] : List Value).toArray sZ = true := fun wZ h => atoms_spec (ws := (.code yX6_learn cX6_learn 1 (some .int) :: sgT)) BZ.pre wZ (List.mem_cons_of_mem _ h)
  have hown : sZ.vm.findClass RX6 = some mZ.cls := findClass_of_methodNamed BZ.named
  have hlocks := BZ.notSynchronized
  have hD : va_D (xA [(m, .inr (6, [.int (nI ord), .ref me, .int (nI ns), .ref ml, .ref mw, .int ev, .ref wa, .ref wb, .ref wf, .long y0, .long y1, .ref li])), (me, .inl (cI, 4, .inl ge)), (ml, .inl (cI, 9, .inl gL)), (mw, .inl (cI, 72, .inl gW)), (wa, .inl (cI, 72, .inl ga)), (wb, .inl (cI, 72, .inl gb)), (wf, .inl (cI, 72, .inl gf)), (li, .inl (cI, 240, .inl lim))]) [(m, .inr (6, [.int (nI ord), .ref me, .int (nI ns), .ref ml, .ref mw, .int ev, .ref wa, .ref wb, .ref wf, .long y0, .long y1, .ref li])), (me, .inl (cI, 4, .inl ge)), (ml, .inl (cI, 9, .inl gL)), (mw, .inl (cI, 72, .inl gW)), (wa, .inl (cI, 72, .inl ga)), (wb, .inl (cI, 72, .inl gb)), (wf, .inl (cI, 72, .inl gf)), (li, .inl (cI, 240, .inl lim))] := ⟨hD0.1, fun k q h => ⟨k, q.2, h⟩⟩
  generalize hAe : xA [(m, .inr (6, [.int (nI ord), .ref me, .int (nI ns), .ref ml, .ref mw, .int ev, .ref wa, .ref wb, .ref wf, .long y0, .long y1, .ref li])), (me, .inl (cI, 4, .inl ge)), (ml, .inl (cI, 9, .inl gL)), (mw, .inl (cI, 72, .inl gW)), (wa, .inl (cI, 72, .inl ga)), (wb, .inl (cI, 72, .inl gb)), (wf, .inl (cI, 72, .inl gf)), (li, .inl (cI, 240, .inl lim))] = A at hD ⊢
  have hS : va_S A sZ.heap sZ.heap [] := va_S.rf
  have hl := lv_entry ([.ref m]) (n := 1) (Nat.le_of_ble_eq_true rfl)
  rw [lg_entry_eq]
  generalize (lg_sl ([.ref m]) ++ List.replicate (1 - (lg_sl ([.ref m])).length) Slot.unset).toArray = ls at hl ⊢
  have hl : lv_has ls 1 [(0, .ref m)] := hl
  have hP : va_P D vwCl [(m, .inr (6, [.int (nI ord), .ref me, .int (nI ns), .ref ml, .ref mw, .int ev, .ref wa, .ref wb, .ref wf, .long y0, .long y1, .ref li])), (me, .inl (cI, 4, .inl ge)), (ml, .inl (cI, 9, .inl gL)), (mw, .inl (cI, 72, .inl gW)), (wa, .inl (cI, 72, .inl ga)), (wb, .inl (cI, 72, .inl gb)), (wf, .inl (cI, 72, .inl gf)), (li, .inl (cI, 240, .inl lim))] sZ.heap := hP
  refine lv_aload_n hx hb dX6_learn_0 rfl (lv_at hl 0 rfl) ?_
  refine va_get (D := D) (ci := 6) (v := .int (nI ns)) (C := RX6) (T := TX6) (N := 12) hx hb hts hinX6 hown hK.1 hP 0 rfl rfl 2 (by decide) (hts _ fl_X6_35) (fun _ h9 => h9) rfl dX6_learn_1 ?_
  refine lv_bipush (v := nI 8) hx hb dX6_learn_4 (by decide) ?_
  refine ci_icmp_ne (X := ((ns : Nat) : Int)) (Y := ((8 : Nat) : Int)) (tgt := 11) hx hb (sg_n (by omega)) (sg_n (by omega)) dX6_learn_6 rfl (fun h6 => ?_) (fun h6 => by exfalso; omega)
  refine lv_aload_n hx hb dX6_learn_11 rfl (lv_at hl 0 rfl) ?_
  refine lv_aload_n hx hb dX6_learn_12 rfl (lv_at hl 0 rfl) ?_
  refine va_get (D := D) (ci := 6) (v := .int (nI ns)) (C := RX6) (T := TX6) (N := 12) hx hb hts hinX6 hown hK.1 hP 0 rfl rfl 2 (by decide) (hts _ fl_X6_35) (fun _ h9 => h9) rfl dX6_learn_13 ?_
  refine lv_iconst (v := nI 1) hx hb dX6_learn_16 (by decide) ?_
  refine n_iadd hx hb dX6_learn_17 ?_
  refine va_put (D := D) (ci := 6) (v := .int (nI (ns + 1))) (ty := .int) (C := RX6) (T := TX6) (N := 12) hx hb hts hinX6 tyX6 tyX6_ok nmX6 hown hK.1 hP hD hS 0 rfl rfl 2 (by decide) (hts _ fl_X6_35) (fun _ h9 => h9) rfl (by decide +kernel) rfl rfl (Nat.le_of_ble_eq_true rfl) dX6_learn_18 (fun H locs hP hD hS => ?_)
  have hP : va_P D vwCl [(m, .inr (6, [.int (nI ord), .ref me, .int (nI (ns + 1)), .ref ml, .ref mw, .int ev, .ref wa, .ref wb, .ref wf, .long y0, .long y1, .ref li])), (me, .inl (cI, 4, .inl ge)), (ml, .inl (cI, 9, .inl gL)), (mw, .inl (cI, 72, .inl gW)), (wa, .inl (cI, 72, .inl ga)), (wb, .inl (cI, 72, .inl gb)), (wf, .inl (cI, 72, .inl gf)), (li, .inl (cI, 240, .inl lim))] H := hP
  have hD : va_D A [(m, .inr (6, [.int (nI ord), .ref me, .int (nI (ns + 1)), .ref ml, .ref mw, .int ev, .ref wa, .ref wb, .ref wf, .long y0, .long y1, .ref li])), (me, .inl (cI, 4, .inl ge)), (ml, .inl (cI, 9, .inl gL)), (mw, .inl (cI, 72, .inl gW)), (wa, .inl (cI, 72, .inl ga)), (wb, .inl (cI, 72, .inl gb)), (wf, .inl (cI, 72, .inl gf)), (li, .inl (cI, 240, .inl lim))] := hD
  refine lv_aload_n hx hb dX6_learn_21 rfl (lv_at hl 0 rfl) ?_
  refine va_get (D := D) (ci := 6) (v := .ref ml) (C := RX6) (T := TX6) (N := 12) hx hb hts hinX6 hown hK.1 hP 0 rfl rfl 3 (by decide) (hts _ fl_X6_17) (fun _ h9 => h9) rfl dX6_learn_22 ?_
  refine lv_aload_n hx hb dX6_learn_25 rfl (lv_at hl 0 rfl) ?_
  refine va_get (D := D) (ci := 6) (v := .int (nI (ns + 1))) (C := RX6) (T := TX6) (N := 12) hx hb hts hinX6 hown hK.1 hP 0 rfl rfl 2 (by decide) (hts _ fl_X6_35) (fun _ h9 => h9) rfl dX6_learn_26 ?_
  refine lv_iconst (v := nI 0) hx hb dX6_learn_29 (by decide) ?_
  refine n_iast hx hb hK.1 hP hD hS 2 0 rfl rfl (by omega) (by omega) dX6_learn_30 (fun H locs hP hD hS => ?_)
  have hP : va_P D vwCl [(m, .inr (6, [.int (nI ord), .ref me, .int (nI (ns + 1)), .ref ml, .ref mw, .int ev, .ref wa, .ref wb, .ref wf, .long y0, .long y1, .ref li])), (me, .inl (cI, 4, .inl ge)), (ml, .inl (cI, 9, .inl (upd gL (ns + 1) (nI 0)))), (mw, .inl (cI, 72, .inl gW)), (wa, .inl (cI, 72, .inl ga)), (wb, .inl (cI, 72, .inl gb)), (wf, .inl (cI, 72, .inl gf)), (li, .inl (cI, 240, .inl lim))] H := hP
  have hD : va_D A [(m, .inr (6, [.int (nI ord), .ref me, .int (nI (ns + 1)), .ref ml, .ref mw, .int ev, .ref wa, .ref wb, .ref wf, .long y0, .long y1, .ref li])), (me, .inl (cI, 4, .inl ge)), (ml, .inl (cI, 9, .inl (upd gL (ns + 1) (nI 0)))), (mw, .inl (cI, 72, .inl gW)), (wa, .inl (cI, 72, .inl ga)), (wb, .inl (cI, 72, .inl gb)), (wf, .inl (cI, 72, .inl gf)), (li, .inl (cI, 240, .inl lim))] := hD
  refine lv_aload_n hx hb dX6_learn_31 rfl (lv_at hl 0 rfl) ?_
  refine va_get (D := D) (ci := 6) (v := .int (nI (ns + 1))) (C := RX6) (T := TX6) (N := 12) hx hb hts hinX6 hown hK.1 hP 0 rfl rfl 2 (by decide) (hts _ fl_X6_35) (fun _ h9 => h9) rfl dX6_learn_32 ?_
  exact W.iret hx hb hr (fun tZ ht hW => ⟨⟨_, (), rfl, rfl, by show va_P D vwCl _ tZ.heap; rw [ht]; exact hP⟩, hS.F ht⟩) hS.2.2 dX6_learn_35
set_option maxHeartbeats 4000000 in
set_option maxRecDepth 100000 in
theorem c_X6_erase (l : Launch) (D : va_G) (cI cO : ClassId) (m : Nat) (me : Nat) (ml : Nat) (mw : Nat) (wa : Nat) (wb : Nat) (wf : Nat) (li : Nat) (ord : Nat) (ns : Nat) (ev : Int32) (y0 : Int64) (y1 : Int64) (ge : Nat → Int32) (gL : Nat → Int32) (gW : Nat → Int32) (ga : Nat → Int32) (gb : Nat → Int32) (gf : Nat → Int32) (lim : Nat → Int32) (n : Nat) (hns : ns ≤ 8) (hL : gL ns = nI n) : Met l yX6_erase (.code yX6_erase cX6_erase 2 (some .int) :: sgT) ({ frames := 0, cells := 0, slots := 0, locals := 0 }) (sgWc D cI cO [.ref m] [(m, .inr (6, [.int (nI ord), .ref me, .int (nI ns), .ref ml, .ref mw, .int ev, .ref wa, .ref wb, .ref wf, .long y0, .long y1, .ref li])), (me, .inl (cI, 4, .inl ge)), (ml, .inl (cI, 9, .inl gL)), (mw, .inl (cI, 72, .inl gW)), (wa, .inl (cI, 72, .inl ga)), (wb, .inl (cI, 72, .inl gb)), (wf, .inl (cI, 72, .inl gf)), (li, .inl (cI, 240, .inl lim))]) (va_Qi (fun (r : Int32) (uZ : Unit) => r = nI n) (fun uZ t => va_P D vwCl [(m, .inr (6, [.int (nI ord), .ref me, .int (nI ns), .ref ml, .ref mw, .int ev, .ref wa, .ref wb, .ref wf, .long y0, .long y1, .ref li])), (me, .inl (cI, 4, .inl ge)), (ml, .inl (cI, 9, .inl (upd gL ns (nI 0)))), (mw, .inl (cI, 72, .inl gW)), (wa, .inl (cI, 72, .inl ga)), (wb, .inl (cI, 72, .inl gb)), (wf, .inl (cI, 72, .inl gf)), (li, .inl (cI, 240, .inl lim))] t.heap) (xA [(m, .inr (6, [.int (nI ord), .ref me, .int (nI ns), .ref ml, .ref mw, .int ev, .ref wa, .ref wb, .ref wf, .long y0, .long y1, .ref li])), (me, .inl (cI, 4, .inl ge)), (ml, .inl (cI, 9, .inl gL)), (mw, .inl (cI, 72, .inl gW)), (wa, .inl (cI, 72, .inl ga)), (wb, .inl (cI, 72, .inl gb)), (wf, .inl (cI, 72, .inl gf)), (li, .inl (cI, 240, .inl lim))])) 0 0 (xA [(m, .inr (6, [.int (nI ord), .ref me, .int (nI ns), .ref ml, .ref mw, .int ev, .ref wa, .ref wb, .ref wf, .long y0, .long y1, .ref li])), (me, .inl (cI, 4, .inl ge)), (ml, .inl (cI, 9, .inl gL)), (mw, .inl (cI, 72, .inl gW)), (wa, .inl (cI, 72, .inl ga)), (wb, .inl (cI, 72, .inl gb)), (wf, .inl (cI, 72, .inl gf)), (li, .inl (cI, 240, .inl lim))]) := by
  refine Met.ofW (cc := cX6_erase) (maxL := 2) (ret := (some .int)) (by decide) rfl ?_
  intro pZ eZ sZ mZ argsZ belowZ methZ cZ s₁ BZ hml hv
  obtain ⟨rfl, hP, hK, hD0⟩ := hv
  have hx := BZ.exec
  have hb := BZ.bytes
  have hr := BZ.returns
  have hts : ∀ wZ ∈ sgT, wZ.before ([.ref m] : List Value).toArray sZ = true := fun wZ h => atoms_spec (ws := (.code yX6_erase cX6_erase 2 (some .int) :: sgT)) BZ.pre wZ (List.mem_cons_of_mem _ h)
  have hown : sZ.vm.findClass RX6 = some mZ.cls := findClass_of_methodNamed BZ.named
  have hlocks := BZ.notSynchronized
  have hD : va_D (xA [(m, .inr (6, [.int (nI ord), .ref me, .int (nI ns), .ref ml, .ref mw, .int ev, .ref wa, .ref wb, .ref wf, .long y0, .long y1, .ref li])), (me, .inl (cI, 4, .inl ge)), (ml, .inl (cI, 9, .inl gL)), (mw, .inl (cI, 72, .inl gW)), (wa, .inl (cI, 72, .inl ga)), (wb, .inl (cI, 72, .inl gb)), (wf, .inl (cI, 72, .inl gf)), (li, .inl (cI, 240, .inl lim))]) [(m, .inr (6, [.int (nI ord), .ref me, .int (nI ns), .ref ml, .ref mw, .int ev, .ref wa, .ref wb, .ref wf, .long y0, .long y1, .ref li])), (me, .inl (cI, 4, .inl ge)), (ml, .inl (cI, 9, .inl gL)), (mw, .inl (cI, 72, .inl gW)), (wa, .inl (cI, 72, .inl ga)), (wb, .inl (cI, 72, .inl gb)), (wf, .inl (cI, 72, .inl gf)), (li, .inl (cI, 240, .inl lim))] := ⟨hD0.1, fun k q h => ⟨k, q.2, h⟩⟩
  generalize hAe : xA [(m, .inr (6, [.int (nI ord), .ref me, .int (nI ns), .ref ml, .ref mw, .int ev, .ref wa, .ref wb, .ref wf, .long y0, .long y1, .ref li])), (me, .inl (cI, 4, .inl ge)), (ml, .inl (cI, 9, .inl gL)), (mw, .inl (cI, 72, .inl gW)), (wa, .inl (cI, 72, .inl ga)), (wb, .inl (cI, 72, .inl gb)), (wf, .inl (cI, 72, .inl gf)), (li, .inl (cI, 240, .inl lim))] = A at hD ⊢
  have hS : va_S A sZ.heap sZ.heap [] := va_S.rf
  have hl := lv_entry ([.ref m]) (n := 2) (Nat.le_of_ble_eq_true rfl)
  rw [lg_entry_eq]
  generalize (lg_sl ([.ref m]) ++ List.replicate (2 - (lg_sl ([.ref m])).length) Slot.unset).toArray = ls at hl ⊢
  have hl : lv_has ls 2 [(0, .ref m)] := hl
  have hP : va_P D vwCl [(m, .inr (6, [.int (nI ord), .ref me, .int (nI ns), .ref ml, .ref mw, .int ev, .ref wa, .ref wb, .ref wf, .long y0, .long y1, .ref li])), (me, .inl (cI, 4, .inl ge)), (ml, .inl (cI, 9, .inl gL)), (mw, .inl (cI, 72, .inl gW)), (wa, .inl (cI, 72, .inl ga)), (wb, .inl (cI, 72, .inl gb)), (wf, .inl (cI, 72, .inl gf)), (li, .inl (cI, 240, .inl lim))] sZ.heap := hP
  refine lv_aload_n hx hb dX6_erase_0 rfl (lv_at hl 0 rfl) ?_
  refine va_get (D := D) (ci := 6) (v := .ref ml) (C := RX6) (T := TX6) (N := 12) hx hb hts hinX6 hown hK.1 hP 0 rfl rfl 3 (by decide) (hts _ fl_X6_17) (fun _ h9 => h9) rfl dX6_erase_1 ?_
  refine lv_aload_n hx hb dX6_erase_4 rfl (lv_at hl 0 rfl) ?_
  refine va_get (D := D) (ci := 6) (v := .int (nI ns)) (C := RX6) (T := TX6) (N := 12) hx hb hts hinX6 hown hK.1 hP 0 rfl rfl 2 (by decide) (hts _ fl_X6_35) (fun _ h9 => h9) rfl dX6_erase_5 ?_
  refine n_iald (v := nI n) hx hb hK.1 hP 2 0 rfl rfl (by omega) (by omega) hL dX6_erase_8 ?_
  refine lv_istore_n hx hb dX6_erase_9 rfl hl (by decide) rfl (fun ls hl => ?_)
  have hl : lv_has ls 2 [(1, .int (nI n)), (0, .ref m)] := hl
  refine lv_aload_n hx hb dX6_erase_10 rfl (lv_at hl 1 rfl) ?_
  refine va_get (D := D) (ci := 6) (v := .ref ml) (C := RX6) (T := TX6) (N := 12) hx hb hts hinX6 hown hK.1 hP 0 rfl rfl 3 (by decide) (hts _ fl_X6_17) (fun _ h9 => h9) rfl dX6_erase_11 ?_
  refine lv_aload_n hx hb dX6_erase_14 rfl (lv_at hl 1 rfl) ?_
  refine va_get (D := D) (ci := 6) (v := .int (nI ns)) (C := RX6) (T := TX6) (N := 12) hx hb hts hinX6 hown hK.1 hP 0 rfl rfl 2 (by decide) (hts _ fl_X6_35) (fun _ h9 => h9) rfl dX6_erase_15 ?_
  refine lv_iconst (v := nI 0) hx hb dX6_erase_18 (by decide) ?_
  refine n_iast hx hb hK.1 hP hD hS 2 0 rfl rfl (by omega) (by omega) dX6_erase_19 (fun H locs hP hD hS => ?_)
  have hP : va_P D vwCl [(m, .inr (6, [.int (nI ord), .ref me, .int (nI ns), .ref ml, .ref mw, .int ev, .ref wa, .ref wb, .ref wf, .long y0, .long y1, .ref li])), (me, .inl (cI, 4, .inl ge)), (ml, .inl (cI, 9, .inl (upd gL ns (nI 0)))), (mw, .inl (cI, 72, .inl gW)), (wa, .inl (cI, 72, .inl ga)), (wb, .inl (cI, 72, .inl gb)), (wf, .inl (cI, 72, .inl gf)), (li, .inl (cI, 240, .inl lim))] H := hP
  have hD : va_D A [(m, .inr (6, [.int (nI ord), .ref me, .int (nI ns), .ref ml, .ref mw, .int ev, .ref wa, .ref wb, .ref wf, .long y0, .long y1, .ref li])), (me, .inl (cI, 4, .inl ge)), (ml, .inl (cI, 9, .inl (upd gL ns (nI 0)))), (mw, .inl (cI, 72, .inl gW)), (wa, .inl (cI, 72, .inl ga)), (wb, .inl (cI, 72, .inl gb)), (wf, .inl (cI, 72, .inl gf)), (li, .inl (cI, 240, .inl lim))] := hD
  refine lv_iload_n hx hb dX6_erase_20 rfl (lv_at hl 0 rfl) ?_
  exact W.iret hx hb hr (fun tZ ht hW => ⟨⟨_, (), rfl, rfl, by show va_P D vwCl _ tZ.heap; rw [ht]; exact hP⟩, hS.F ht⟩) hS.2.2 dX6_erase_21
set_option maxHeartbeats 4000000 in
set_option maxRecDepth 100000 in
theorem r_forget_none (l : Launch) (D : va_G) (cI cO : ClassId) (m : Nat) (me : Nat) (ml : Nat) (mw : Nat) (wa : Nat) (wb : Nat) (wf : Nat) (li : Nat) (ord : Nat) (ns : Nat) (ev : Int32) (y0 : Int64) (y1 : Int64) (ge : Nat → Int32) (gL : Nat → Int32) (gW : Nat → Int32) (ga : Nat → Int32) (gb : Nat → Int32) (gf : Nat → Int32) (lim : Nat → Int32) (hns : ns = 0) : Met l yX6_forget (.code yX6_forget cX6_forget 1 (some .int) :: sgT) ({ frames := 0, cells := 0, slots := 0, locals := 0 }) (sgPc D cI cO [.ref m] [(m, .inr (6, [.int (nI ord), .ref me, .int (nI ns), .ref ml, .ref mw, .int ev, .ref wa, .ref wb, .ref wf, .long y0, .long y1, .ref li])), (me, .inl (cI, 4, .inl ge)), (ml, .inl (cI, 9, .inl gL)), (mw, .inl (cI, 72, .inl gW)), (wa, .inl (cI, 72, .inl ga)), (wb, .inl (cI, 72, .inl gb)), (wf, .inl (cI, 72, .inl gf)), (li, .inl (cI, 240, .inl lim))]) (vp_Si (fun r => r = -1)) 0 0 (fun _ => False) := by
  refine Met.ofW (cc := cX6_forget) (maxL := 1) (ret := (some .int)) (by decide) rfl ?_
  intro pZ eZ sZ mZ argsZ belowZ methZ cZ s₁ BZ hml hv
  obtain ⟨rfl, hP, hK⟩ := hv
  have hx := BZ.exec
  have hb := BZ.bytes
  have hr := BZ.returns
  have hts : ∀ wZ ∈ sgT, wZ.before ([.ref m] : List Value).toArray sZ = true := fun wZ h => atoms_spec (ws := (.code yX6_forget cX6_forget 1 (some .int) :: sgT)) BZ.pre wZ (List.mem_cons_of_mem _ h)
  have hown : sZ.vm.findClass RX6 = some mZ.cls := findClass_of_methodNamed BZ.named
  have hlocks := BZ.notSynchronized
  have hl := lv_entry ([.ref m]) (n := 1) (Nat.le_of_ble_eq_true rfl)
  rw [lg_entry_eq]
  generalize (lg_sl ([.ref m]) ++ List.replicate (1 - (lg_sl ([.ref m])).length) Slot.unset).toArray = ls at hl ⊢
  have hl : lv_has ls 1 [(0, .ref m)] := hl
  refine lv_aload_n hx hb dX6_forget_0 rfl (lv_at hl 0 rfl) ?_
  refine va_get (D := D) (ci := 6) (v := .int (nI ns)) (C := RX6) (T := TX6) (N := 12) hx hb hts hinX6 hown hK.1 hP 0 rfl rfl 2 (by decide) (hts _ fl_X6_35) (fun _ h9 => h9) rfl dX6_forget_1 ?_
  refine ci_if_ne (X := ((ns : Nat) : Int)) (tgt := 9) hx hb (sg_n (by omega)) dX6_forget_4 rfl (fun h4 => by exfalso; omega) (fun h4 => ?_)
  refine lv_iconst (v := -1) hx hb dX6_forget_7 (by decide) ?_
  exact W.iret hx hb hr (fun tZ ht hW => ⟨_, rfl, rfl, ht⟩) (fun q h => by cases h) dX6_forget_8
set_option maxHeartbeats 4000000 in
set_option maxRecDepth 100000 in
theorem c_X6_forget (l : Launch) (D : va_G) (cI cO : ClassId) (m : Nat) (me : Nat) (ml : Nat) (mw : Nat) (wa : Nat) (wb : Nat) (wf : Nat) (li : Nat) (ord : Nat) (ev : Int32) (y0 : Int64) (y1 : Int64) (ge : Nat → Int32) (gL : Nat → Int32) (gW : Nat → Int32) (ga : Nat → Int32) (gb : Nat → Int32) (gf : Nat → Int32) (lim : Nat → Int32) (n : Nat) (nl : Nat) (hn : n < 8) (hL : gL n = nI nl) : Met l yX6_forget (.code yX6_forget cX6_forget 1 (some .int) :: sgT) ({ frames := 0, cells := 0, slots := 0, locals := 0 }) (sgWc D cI cO [.ref m] [(m, .inr (6, [.int (nI ord), .ref me, .int (nI (n + 1)), .ref ml, .ref mw, .int ev, .ref wa, .ref wb, .ref wf, .long y0, .long y1, .ref li])), (me, .inl (cI, 4, .inl ge)), (ml, .inl (cI, 9, .inl gL)), (mw, .inl (cI, 72, .inl gW)), (wa, .inl (cI, 72, .inl ga)), (wb, .inl (cI, 72, .inl gb)), (wf, .inl (cI, 72, .inl gf)), (li, .inl (cI, 240, .inl lim))]) (va_Qi (fun (r : Int32) (uZ : Unit) => r = nI nl) (fun uZ t => va_P D vwCl [(m, .inr (6, [.int (nI ord), .ref me, .int (nI n), .ref ml, .ref mw, .int ev, .ref wa, .ref wb, .ref wf, .long y0, .long y1, .ref li])), (me, .inl (cI, 4, .inl ge)), (ml, .inl (cI, 9, .inl gL)), (mw, .inl (cI, 72, .inl gW)), (wa, .inl (cI, 72, .inl ga)), (wb, .inl (cI, 72, .inl gb)), (wf, .inl (cI, 72, .inl gf)), (li, .inl (cI, 240, .inl lim))] t.heap) (xA [(m, .inr (6, [.int (nI ord), .ref me, .int (nI (n + 1)), .ref ml, .ref mw, .int ev, .ref wa, .ref wb, .ref wf, .long y0, .long y1, .ref li])), (me, .inl (cI, 4, .inl ge)), (ml, .inl (cI, 9, .inl gL)), (mw, .inl (cI, 72, .inl gW)), (wa, .inl (cI, 72, .inl ga)), (wb, .inl (cI, 72, .inl gb)), (wf, .inl (cI, 72, .inl gf)), (li, .inl (cI, 240, .inl lim))])) 0 0 (xA [(m, .inr (6, [.int (nI ord), .ref me, .int (nI (n + 1)), .ref ml, .ref mw, .int ev, .ref wa, .ref wb, .ref wf, .long y0, .long y1, .ref li])), (me, .inl (cI, 4, .inl ge)), (ml, .inl (cI, 9, .inl gL)), (mw, .inl (cI, 72, .inl gW)), (wa, .inl (cI, 72, .inl ga)), (wb, .inl (cI, 72, .inl gb)), (wf, .inl (cI, 72, .inl gf)), (li, .inl (cI, 240, .inl lim))]) := by
  refine Met.ofW (cc := cX6_forget) (maxL := 1) (ret := (some .int)) (by decide) rfl ?_
  intro pZ eZ sZ mZ argsZ belowZ methZ cZ s₁ BZ hml hv
  obtain ⟨rfl, hP, hK, hD0⟩ := hv
  have hx := BZ.exec
  have hb := BZ.bytes
  have hr := BZ.returns
  have hts : ∀ wZ ∈ sgT, wZ.before ([.ref m] : List Value).toArray sZ = true := fun wZ h => atoms_spec (ws := (.code yX6_forget cX6_forget 1 (some .int) :: sgT)) BZ.pre wZ (List.mem_cons_of_mem _ h)
  have hown : sZ.vm.findClass RX6 = some mZ.cls := findClass_of_methodNamed BZ.named
  have hlocks := BZ.notSynchronized
  have hD : va_D (xA [(m, .inr (6, [.int (nI ord), .ref me, .int (nI (n + 1)), .ref ml, .ref mw, .int ev, .ref wa, .ref wb, .ref wf, .long y0, .long y1, .ref li])), (me, .inl (cI, 4, .inl ge)), (ml, .inl (cI, 9, .inl gL)), (mw, .inl (cI, 72, .inl gW)), (wa, .inl (cI, 72, .inl ga)), (wb, .inl (cI, 72, .inl gb)), (wf, .inl (cI, 72, .inl gf)), (li, .inl (cI, 240, .inl lim))]) [(m, .inr (6, [.int (nI ord), .ref me, .int (nI (n + 1)), .ref ml, .ref mw, .int ev, .ref wa, .ref wb, .ref wf, .long y0, .long y1, .ref li])), (me, .inl (cI, 4, .inl ge)), (ml, .inl (cI, 9, .inl gL)), (mw, .inl (cI, 72, .inl gW)), (wa, .inl (cI, 72, .inl ga)), (wb, .inl (cI, 72, .inl gb)), (wf, .inl (cI, 72, .inl gf)), (li, .inl (cI, 240, .inl lim))] := ⟨hD0.1, fun k q h => ⟨k, q.2, h⟩⟩
  generalize hAe : xA [(m, .inr (6, [.int (nI ord), .ref me, .int (nI (n + 1)), .ref ml, .ref mw, .int ev, .ref wa, .ref wb, .ref wf, .long y0, .long y1, .ref li])), (me, .inl (cI, 4, .inl ge)), (ml, .inl (cI, 9, .inl gL)), (mw, .inl (cI, 72, .inl gW)), (wa, .inl (cI, 72, .inl ga)), (wb, .inl (cI, 72, .inl gb)), (wf, .inl (cI, 72, .inl gf)), (li, .inl (cI, 240, .inl lim))] = A at hD ⊢
  have hS : va_S A sZ.heap sZ.heap [] := va_S.rf
  have hl := lv_entry ([.ref m]) (n := 1) (Nat.le_of_ble_eq_true rfl)
  rw [lg_entry_eq]
  generalize (lg_sl ([.ref m]) ++ List.replicate (1 - (lg_sl ([.ref m])).length) Slot.unset).toArray = ls at hl ⊢
  have hl : lv_has ls 1 [(0, .ref m)] := hl
  have hP : va_P D vwCl [(m, .inr (6, [.int (nI ord), .ref me, .int (nI (n + 1)), .ref ml, .ref mw, .int ev, .ref wa, .ref wb, .ref wf, .long y0, .long y1, .ref li])), (me, .inl (cI, 4, .inl ge)), (ml, .inl (cI, 9, .inl gL)), (mw, .inl (cI, 72, .inl gW)), (wa, .inl (cI, 72, .inl ga)), (wb, .inl (cI, 72, .inl gb)), (wf, .inl (cI, 72, .inl gf)), (li, .inl (cI, 240, .inl lim))] sZ.heap := hP
  refine lv_aload_n hx hb dX6_forget_0 rfl (lv_at hl 0 rfl) ?_
  refine va_get (D := D) (ci := 6) (v := .int (nI (n + 1))) (C := RX6) (T := TX6) (N := 12) hx hb hts hinX6 hown hK.1 hP 0 rfl rfl 2 (by decide) (hts _ fl_X6_35) (fun _ h9 => h9) rfl dX6_forget_1 ?_
  refine ci_if_ne (X := ((n + 1 : Nat) : Int)) (tgt := 9) hx hb (sg_n (by omega)) dX6_forget_4 rfl (fun h4 => ?_) (fun h4 => by exfalso; omega)
  refine lv_aload_n hx hb dX6_forget_9 rfl (lv_at hl 0 rfl) ?_
  refine lv_aload_n hx hb dX6_forget_10 rfl (lv_at hl 0 rfl) ?_
  refine va_get (D := D) (ci := 6) (v := .int (nI (n + 1))) (C := RX6) (T := TX6) (N := 12) hx hb hts hinX6 hown hK.1 hP 0 rfl rfl 2 (by decide) (hts _ fl_X6_35) (fun _ h9 => h9) rfl dX6_forget_11 ?_
  refine lv_iconst (v := nI 1) hx hb dX6_forget_14 (by decide) ?_
  refine n_isub hx hb dX6_forget_15 (by omega) ?_
  refine sw_i (y := nI n) (by rw [Nat.add_sub_cancel]) ?_
  refine va_put (D := D) (ci := 6) (v := .int (nI n)) (ty := .int) (C := RX6) (T := TX6) (N := 12) hx hb hts hinX6 tyX6 tyX6_ok nmX6 hown hK.1 hP hD hS 0 rfl rfl 2 (by decide) (hts _ fl_X6_35) (fun _ h9 => h9) rfl (by decide +kernel) rfl rfl (Nat.le_of_ble_eq_true rfl) dX6_forget_16 (fun H locs hP hD hS => ?_)
  have hP : va_P D vwCl [(m, .inr (6, [.int (nI ord), .ref me, .int (nI n), .ref ml, .ref mw, .int ev, .ref wa, .ref wb, .ref wf, .long y0, .long y1, .ref li])), (me, .inl (cI, 4, .inl ge)), (ml, .inl (cI, 9, .inl gL)), (mw, .inl (cI, 72, .inl gW)), (wa, .inl (cI, 72, .inl ga)), (wb, .inl (cI, 72, .inl gb)), (wf, .inl (cI, 72, .inl gf)), (li, .inl (cI, 240, .inl lim))] H := hP
  have hD : va_D A [(m, .inr (6, [.int (nI ord), .ref me, .int (nI n), .ref ml, .ref mw, .int ev, .ref wa, .ref wb, .ref wf, .long y0, .long y1, .ref li])), (me, .inl (cI, 4, .inl ge)), (ml, .inl (cI, 9, .inl gL)), (mw, .inl (cI, 72, .inl gW)), (wa, .inl (cI, 72, .inl ga)), (wb, .inl (cI, 72, .inl gb)), (wf, .inl (cI, 72, .inl gf)), (li, .inl (cI, 240, .inl lim))] := hD
  refine lv_aload_n hx hb dX6_forget_19 rfl (lv_at hl 0 rfl) ?_
  refine va_get (D := D) (ci := 6) (v := .ref ml) (C := RX6) (T := TX6) (N := 12) hx hb hts hinX6 hown hK.1 hP 0 rfl rfl 3 (by decide) (hts _ fl_X6_17) (fun _ h9 => h9) rfl dX6_forget_20 ?_
  refine lv_aload_n hx hb dX6_forget_23 rfl (lv_at hl 0 rfl) ?_
  refine va_get (D := D) (ci := 6) (v := .int (nI n)) (C := RX6) (T := TX6) (N := 12) hx hb hts hinX6 hown hK.1 hP 0 rfl rfl 2 (by decide) (hts _ fl_X6_35) (fun _ h9 => h9) rfl dX6_forget_24 ?_
  refine n_iald (v := nI nl) hx hb hK.1 hP 2 0 rfl rfl (by omega) (by omega) hL dX6_forget_27 ?_
  exact W.iret hx hb hr (fun tZ ht hW => ⟨⟨_, (), rfl, rfl, by show va_P D vwCl _ tZ.heap; rw [ht]; exact hP⟩, hS.F ht⟩) hS.2.2 dX6_forget_28
set_option maxHeartbeats 4000000 in
set_option maxRecDepth 100000 in
theorem c_X6_symbolAt (l : Launch) (D : va_G) (cI cO : ClassId) (m : Nat) (me : Nat) (ml : Nat) (mw : Nat) (wa : Nat) (wb : Nat) (wf : Nat) (li : Nat) (ord : Nat) (ns : Nat) (ev : Int32) (y0 : Int64) (y1 : Int64) (ge : Nat → Int32) (gL : Nat → Int32) (gW : Nat → Int32) (ga : Nat → Int32) (gb : Nat → Int32) (gf : Nat → Int32) (lim : Nat → Int32) (ln : Nat → Nat) (wd : Nat → Nat → Nat) (s : Nat) (x : Int32) (j : Nat) (hs : s ≤ 8) (hL : gL s = nI (ln s)) (hl8 : ln s ≤ 8) (hW : ∀ i, i < ln s → gW (8 * s + i) = nI (wd s i)) (hxj : x.toInt = (j : Int) - 2) : Met l yX6_symbolAt (.code yX6_symbolAt cX6_symbolAt 3 (some .int) :: sgT) ({ frames := 0, cells := 0, slots := 0, locals := 0 }) (sgPc D cI cO [.ref m, .int (nI s), .int x] [(m, .inr (6, [.int (nI ord), .ref me, .int (nI ns), .ref ml, .ref mw, .int ev, .ref wa, .ref wb, .ref wf, .long y0, .long y1, .ref li])), (me, .inl (cI, 4, .inl ge)), (ml, .inl (cI, 9, .inl gL)), (mw, .inl (cI, 72, .inl gW)), (wa, .inl (cI, 72, .inl ga)), (wb, .inl (cI, 72, .inl gb)), (wf, .inl (cI, 72, .inl gf)), (li, .inl (cI, 240, .inl lim))]) (vp_Si (fun r => r = nI (sgSy ln wd s j))) 0 0 (fun _ => False) := by
  refine Met.ofW (cc := cX6_symbolAt) (maxL := 3) (ret := (some .int)) (by decide) rfl ?_
  intro pZ eZ sZ mZ argsZ belowZ methZ cZ s₁ BZ hml hv
  obtain ⟨rfl, hP, hK⟩ := hv
  have hx := BZ.exec
  have hb := BZ.bytes
  have hr := BZ.returns
  have hts : ∀ wZ ∈ sgT, wZ.before ([.ref m, .int (nI s), .int x] : List Value).toArray sZ = true := fun wZ h => atoms_spec (ws := (.code yX6_symbolAt cX6_symbolAt 3 (some .int) :: sgT)) BZ.pre wZ (List.mem_cons_of_mem _ h)
  have hown : sZ.vm.findClass RX6 = some mZ.cls := findClass_of_methodNamed BZ.named
  have hlocks := BZ.notSynchronized
  have hl := lv_entry ([.ref m, .int (nI s), .int x]) (n := 3) (Nat.le_of_ble_eq_true rfl)
  rw [lg_entry_eq]
  generalize (lg_sl ([.ref m, .int (nI s), .int x]) ++ List.replicate (3 - (lg_sl ([.ref m, .int (nI s), .int x])).length) Slot.unset).toArray = ls at hl ⊢
  have hl : lv_has ls 3 [(0, .ref m), (1, .int (nI s)), (2, .int x)] := hl
  refine lv_iload_n hx hb dX6_symbolAt_0 rfl (lv_at hl 2 rfl) ?_
  refine ci_if_ge (X := ((j : Int) - 2)) (tgt := 9) hx hb hxj dX6_symbolAt_1 rfl (fun h1 => ?_) (fun h1 => ?_)
  · refine lv_iload_n hx hb dX6_symbolAt_9 rfl (lv_at hl 2 rfl) ?_
    refine lv_aload_n hx hb dX6_symbolAt_10 rfl (lv_at hl 0 rfl) ?_
    refine va_get (D := D) (ci := 6) (v := .ref ml) (C := RX6) (T := TX6) (N := 12) hx hb hts hinX6 hown hK.1 hP 0 rfl rfl 3 (by decide) (hts _ fl_X6_17) (fun _ h9 => h9) rfl dX6_symbolAt_11 ?_
    refine lv_iload_n hx hb dX6_symbolAt_14 rfl (lv_at hl 1 rfl) ?_
    refine n_iald (v := nI (ln s)) hx hb hK.1 hP 2 0 rfl rfl (by omega) (by omega) hL dX6_symbolAt_15 ?_
    refine ci_icmp_ge (X := ((j : Int) - 2)) (Y := ((ln s : Nat) : Int)) (tgt := 33) hx hb hxj (sg_n (by omega)) dX6_symbolAt_16 rfl (fun h16 => ?_) (fun h16 => ?_)
    · refine lv_iconst (v := nI 5) hx hb dX6_symbolAt_33 (by decide) ?_
      exact W.iret hx hb hr (fun tZ ht hW => ⟨_, rfl, (by unfold sgSy; first | rw [if_pos (by omega)] | rw [if_neg (by omega), if_pos (by omega)] | rw [if_neg (by omega), if_neg (by omega)]), ht⟩) (fun q h => by cases h) dX6_symbolAt_34
    · refine lv_aload_n hx hb dX6_symbolAt_19 rfl (lv_at hl 0 rfl) ?_
      refine va_get (D := D) (ci := 6) (v := .ref mw) (C := RX6) (T := TX6) (N := 12) hx hb hts hinX6 hown hK.1 hP 0 rfl rfl 4 (by decide) (hts _ fl_X6_20) (fun _ h9 => h9) rfl dX6_symbolAt_20 ?_
      refine lv_bipush (v := nI 8) hx hb dX6_symbolAt_23 (by decide) ?_
      refine lv_iload_n hx hb dX6_symbolAt_25 rfl (lv_at hl 1 rfl) ?_
      refine n_imul hx hb dX6_symbolAt_26 ?_
      refine lv_iload_n hx hb dX6_symbolAt_27 rfl (lv_at hl 2 rfl) ?_
      refine sw_i (y := nI (j - 2)) (sg_ofInt (by omega) (by omega)) ?_
      refine n_iadd hx hb dX6_symbolAt_28 ?_
      refine n_iald (v := nI (wd s (j - 2))) hx hb hK.1 hP 3 0 rfl rfl (by omega) (by omega) (hW _ (by omega)) dX6_symbolAt_29 ?_
      refine lv_goto (tgt := 34) hx hb dX6_symbolAt_30 rfl ?_
      exact W.iret hx hb hr (fun tZ ht hW => ⟨_, rfl, (by unfold sgSy; first | rw [if_pos (by omega)] | rw [if_neg (by omega), if_pos (by omega)] | rw [if_neg (by omega), if_neg (by omega)]), ht⟩) (fun q h => by cases h) dX6_symbolAt_34
  · refine lv_bipush (v := nI 6) hx hb dX6_symbolAt_4 (by decide) ?_
    refine lv_goto (tgt := 34) hx hb dX6_symbolAt_6 rfl ?_
    exact W.iret hx hb hr (fun tZ ht hW => ⟨_, rfl, (by unfold sgSy; first | rw [if_pos (by omega)] | rw [if_neg (by omega), if_pos (by omega)] | rw [if_neg (by omega), if_neg (by omega)]), ht⟩) (fun q h => by cases h) dX6_symbolAt_34
set_option maxHeartbeats 4000000 in
set_option maxRecDepth 100000 in
theorem c_X6_look (l : Launch) (D : va_G) (cI cO : ClassId) (m : Nat) (me : Nat) (ml : Nat) (mw : Nat) (wa : Nat) (wb : Nat) (wf : Nat) (li : Nat) (ord : Nat) (ns : Nat) (ev : Int32) (y0 : Int64) (y1 : Int64) (ge : Nat → Int32) (gL : Nat → Int32) (gW : Nat → Int32) (ga : Nat → Int32) (gb : Nat → Int32) (gf : Nat → Int32) (lim : Nat → Int32) (ln : Nat → Nat) (wd : Nat → Nat → Nat) (hns : ns ≤ 8) (hMm : sgMm ln wd ns gL gW) : Met l yX6_look (.code yX6_look cX6_look 3 none :: sgT) ({ frames := 1, cells := 0, slots := 0, locals := 22 }) (sgWc D cI cO [.ref m] [(m, .inr (6, [.int (nI ord), .ref me, .int (nI ns), .ref ml, .ref mw, .int ev, .ref wa, .ref wb, .ref wf, .long y0, .long y1, .ref li])), (me, .inl (cI, 4, .inl ge)), (ml, .inl (cI, 9, .inl gL)), (mw, .inl (cI, 72, .inl gW)), (wa, .inl (cI, 72, .inl ga)), (wb, .inl (cI, 72, .inl gb)), (wf, .inl (cI, 72, .inl gf)), (li, .inl (cI, 240, .inl lim))]) (va_Qv (fun uZ : Nat × (Nat → Int32) × (Nat → Int32) × (Nat → Int32) => sgEv (fun k a b c => sgRaw ln wd k a b c ns) uZ.2.1 uZ.2.2.1 uZ.2.2.2 uZ.1) (fun uZ t => va_P D vwCl [(m, .inr (6, [.int (nI ord), .ref me, .int (nI ns), .ref ml, .ref mw, .int (nI uZ.1), .ref wa, .ref wb, .ref wf, .long y0, .long y1, .ref li])), (me, .inl (cI, 4, .inl ge)), (ml, .inl (cI, 9, .inl gL)), (mw, .inl (cI, 72, .inl gW)), (wa, .inl (cI, 72, .inl uZ.2.1)), (wb, .inl (cI, 72, .inl uZ.2.2.1)), (wf, .inl (cI, 72, .inl uZ.2.2.2)), (li, .inl (cI, 240, .inl lim))] t.heap) (xA [(m, .inr (6, [.int (nI ord), .ref me, .int (nI ns), .ref ml, .ref mw, .int ev, .ref wa, .ref wb, .ref wf, .long y0, .long y1, .ref li])), (me, .inl (cI, 4, .inl ge)), (ml, .inl (cI, 9, .inl gL)), (mw, .inl (cI, 72, .inl gW)), (wa, .inl (cI, 72, .inl ga)), (wb, .inl (cI, 72, .inl gb)), (wf, .inl (cI, 72, .inl gf)), (li, .inl (cI, 240, .inl lim))])) 0 0 (xA [(m, .inr (6, [.int (nI ord), .ref me, .int (nI ns), .ref ml, .ref mw, .int ev, .ref wa, .ref wb, .ref wf, .long y0, .long y1, .ref li])), (me, .inl (cI, 4, .inl ge)), (ml, .inl (cI, 9, .inl gL)), (mw, .inl (cI, 72, .inl gW)), (wa, .inl (cI, 72, .inl ga)), (wb, .inl (cI, 72, .inl gb)), (wf, .inl (cI, 72, .inl gf)), (li, .inl (cI, 240, .inl lim))]) := by
  refine Met.ofW (cc := cX6_look) (maxL := 3) (ret := none) (by decide) rfl ?_
  intro pZ eZ sZ mZ argsZ belowZ methZ cZ s₁ BZ hml hv
  obtain ⟨rfl, hP, hK, hD0⟩ := hv
  have hx := BZ.exec
  have hb := BZ.bytes
  have hr := BZ.returns
  have hts : ∀ wZ ∈ sgT, wZ.before ([.ref m] : List Value).toArray sZ = true := fun wZ h => atoms_spec (ws := (.code yX6_look cX6_look 3 none :: sgT)) BZ.pre wZ (List.mem_cons_of_mem _ h)
  have hown : sZ.vm.findClass RX6 = some mZ.cls := findClass_of_methodNamed BZ.named
  have hlocks := BZ.notSynchronized
  have hD : va_D (xA [(m, .inr (6, [.int (nI ord), .ref me, .int (nI ns), .ref ml, .ref mw, .int ev, .ref wa, .ref wb, .ref wf, .long y0, .long y1, .ref li])), (me, .inl (cI, 4, .inl ge)), (ml, .inl (cI, 9, .inl gL)), (mw, .inl (cI, 72, .inl gW)), (wa, .inl (cI, 72, .inl ga)), (wb, .inl (cI, 72, .inl gb)), (wf, .inl (cI, 72, .inl gf)), (li, .inl (cI, 240, .inl lim))]) [(m, .inr (6, [.int (nI ord), .ref me, .int (nI ns), .ref ml, .ref mw, .int ev, .ref wa, .ref wb, .ref wf, .long y0, .long y1, .ref li])), (me, .inl (cI, 4, .inl ge)), (ml, .inl (cI, 9, .inl gL)), (mw, .inl (cI, 72, .inl gW)), (wa, .inl (cI, 72, .inl ga)), (wb, .inl (cI, 72, .inl gb)), (wf, .inl (cI, 72, .inl gf)), (li, .inl (cI, 240, .inl lim))] := ⟨hD0.1, fun k q h => ⟨k, q.2, h⟩⟩
  generalize hAe : xA [(m, .inr (6, [.int (nI ord), .ref me, .int (nI ns), .ref ml, .ref mw, .int ev, .ref wa, .ref wb, .ref wf, .long y0, .long y1, .ref li])), (me, .inl (cI, 4, .inl ge)), (ml, .inl (cI, 9, .inl gL)), (mw, .inl (cI, 72, .inl gW)), (wa, .inl (cI, 72, .inl ga)), (wb, .inl (cI, 72, .inl gb)), (wf, .inl (cI, 72, .inl gf)), (li, .inl (cI, 240, .inl lim))] = A at hD ⊢
  have hS : va_S A sZ.heap sZ.heap [] := va_S.rf
  have hl := lv_entry ([.ref m]) (n := 3) (Nat.le_of_ble_eq_true rfl)
  rw [lg_entry_eq]
  generalize (lg_sl ([.ref m]) ++ List.replicate (3 - (lg_sl ([.ref m])).length) Slot.unset).toArray = ls at hl ⊢
  have hl : lv_has ls 3 [(0, .ref m)] := hl
  have hP : va_P D vwCl [(m, .inr (6, [.int (nI ord), .ref me, .int (nI ns), .ref ml, .ref mw, .int ev, .ref wa, .ref wb, .ref wf, .long y0, .long y1, .ref li])), (me, .inl (cI, 4, .inl ge)), (ml, .inl (cI, 9, .inl gL)), (mw, .inl (cI, 72, .inl gW)), (wa, .inl (cI, 72, .inl ga)), (wb, .inl (cI, 72, .inl gb)), (wf, .inl (cI, 72, .inl gf)), (li, .inl (cI, 240, .inl lim))] sZ.heap := hP
  refine lv_aload_n hx hb dX6_look_0 rfl (lv_at hl 0 rfl) ?_
  refine lv_iconst (v := nI 0) hx hb dX6_look_1 (by decide) ?_
  refine va_put (D := D) (ci := 6) (v := .int (nI 0)) (ty := .int) (C := RX6) (T := TX6) (N := 12) hx hb hts hinX6 tyX6 tyX6_ok nmX6 hown hK.1 hP hD hS 0 rfl rfl 5 (by decide) (hts _ fl_X6_38) (fun _ h9 => h9) rfl (by decide +kernel) rfl rfl (Nat.le_of_ble_eq_true rfl) dX6_look_2 (fun H locs hP hD hS => ?_)
  have hP : va_P D vwCl [(m, .inr (6, [.int (nI ord), .ref me, .int (nI ns), .ref ml, .ref mw, .int (nI 0), .ref wa, .ref wb, .ref wf, .long y0, .long y1, .ref li])), (me, .inl (cI, 4, .inl ge)), (ml, .inl (cI, 9, .inl gL)), (mw, .inl (cI, 72, .inl gW)), (wa, .inl (cI, 72, .inl ga)), (wb, .inl (cI, 72, .inl gb)), (wf, .inl (cI, 72, .inl gf)), (li, .inl (cI, 240, .inl lim))] H := hP
  have hD : va_D A [(m, .inr (6, [.int (nI ord), .ref me, .int (nI ns), .ref ml, .ref mw, .int (nI 0), .ref wa, .ref wb, .ref wf, .long y0, .long y1, .ref li])), (me, .inl (cI, 4, .inl ge)), (ml, .inl (cI, 9, .inl gL)), (mw, .inl (cI, 72, .inl gW)), (wa, .inl (cI, 72, .inl ga)), (wb, .inl (cI, 72, .inl gb)), (wf, .inl (cI, 72, .inl gf)), (li, .inl (cI, 240, .inl lim))] := hD
  refine lv_iconst (v := nI 0) hx hb dX6_look_5 (by decide) ?_
  refine lv_istore_n hx hb dX6_look_6 rfl hl (by decide) rfl (fun ls hl => ?_)
  have hl : lv_has ls 3 [(1, .int (nI 0)), (0, .ref m)] := hl
  refine sw_loop (I := fun kM ls H locs => ∃ (s : Nat) (E : Nat) (a1 : Nat → Int32) (b1 : Nat → Int32) (c1 : Nat → Int32) (fw : Nat → Nat) (fb : Nat → Nat) (ff : Nat → Nat), kM = ns - s ∧ lv_has ls 3 [(1, .int (nI s)), (0, .ref m)] ∧ va_P D vwCl [(m, .inr (6, [.int (nI ord), .ref me, .int (nI ns), .ref ml, .ref mw, .int (nI E), .ref wa, .ref wb, .ref wf, .long y0, .long y1, .ref li])), (me, .inl (cI, 4, .inl ge)), (ml, .inl (cI, 9, .inl gL)), (mw, .inl (cI, 72, .inl gW)), (wa, .inl (cI, 72, .inl a1)), (wb, .inl (cI, 72, .inl b1)), (wf, .inl (cI, 72, .inl c1)), (li, .inl (cI, 240, .inl lim))] H ∧ va_D A [(m, .inr (6, [.int (nI ord), .ref me, .int (nI ns), .ref ml, .ref mw, .int (nI E), .ref wa, .ref wb, .ref wf, .long y0, .long y1, .ref li])), (me, .inl (cI, 4, .inl ge)), (ml, .inl (cI, 9, .inl gL)), (mw, .inl (cI, 72, .inl gW)), (wa, .inl (cI, 72, .inl a1)), (wb, .inl (cI, 72, .inl b1)), (wf, .inl (cI, 72, .inl c1)), (li, .inl (cI, 240, .inl lim))] ∧ va_S A sZ.heap H locs ∧ (s ≤ ns) ∧ (E ≤ 9 * s) ∧ (sgEvs fw fb ff a1 b1 c1 E) ∧ (∀ k a b c, evS fw fb ff k a b c E = sgRaw ln wd k a b c s)) ?_ _ ⟨0, 0, ga, gb, gf, fun _ => 0, fun _ => 0, fun _ => 0, rfl, hl, hP, hD, hS, by omega, by omega, fun j hj => absurd hj (Nat.not_lt_zero _), fun _ _ _ _ => rfl⟩
  intro kM ls H locs hI ih7
  obtain ⟨s, E, a1, b1, c1, fw, fb, ff, hkM, hl, hP, hD, hS, hs, hE, hv, hsum⟩ := hI
  refine lv_iload_n hx hb dX6_look_7 rfl (lv_at hl 0 rfl) ?_
  refine lv_aload_n hx hb dX6_look_8 rfl (lv_at hl 1 rfl) ?_
  refine va_get (D := D) (ci := 6) (v := .int (nI ns)) (C := RX6) (T := TX6) (N := 12) hx hb hts hinX6 hown hK.1 hP 0 rfl rfl 2 (by decide) (hts _ fl_X6_35) (fun _ h9 => h9) rfl dX6_look_9 ?_
  refine ci_icmp_ge (X := ((s : Nat) : Int)) (Y := ((ns : Nat) : Int)) (tgt := 98) hx hb (sg_n (by omega)) (sg_n (by omega)) dX6_look_12 rfl (fun h12 => ?_) (fun h12 => ?_)
  · exact W.vret hx hb hr (fun tZ ht hW => ⟨⟨(E, a1, b1, c1), rfl, ⟨fw, fb, ff, by omega, hv, fun k a b c => by rw [hsum k a b c, show s = ns by omega]⟩, by show va_P D vwCl _ tZ.heap; rw [ht]; exact hP⟩, hS.F ht⟩) hS.2.2 dX6_look_98
  · obtain ⟨hLs, hl8, hWs, hds⟩ := hMm s (by omega)
    refine lv_iconst (v := nI 0) hx hb dX6_look_15 (by decide) ?_
    refine lv_istore_n hx hb dX6_look_16 rfl hl (by decide) rfl (fun ls hl => ?_)
    have hl : lv_has ls 3 [(2, .int (nI 0)), (1, .int (nI s)), (0, .ref m)] := hl
    refine sw_loop (I := fun kM ls H locs => ∃ (i : Nat) (E : Nat) (a1 : Nat → Int32) (b1 : Nat → Int32) (c1 : Nat → Int32) (fw : Nat → Nat) (fb : Nat → Nat) (ff : Nat → Nat), kM = ln s + 1 - i ∧ lv_has ls 3 [(2, .int (nI i)), (1, .int (nI s)), (0, .ref m)] ∧ va_P D vwCl [(m, .inr (6, [.int (nI ord), .ref me, .int (nI ns), .ref ml, .ref mw, .int (nI E), .ref wa, .ref wb, .ref wf, .long y0, .long y1, .ref li])), (me, .inl (cI, 4, .inl ge)), (ml, .inl (cI, 9, .inl gL)), (mw, .inl (cI, 72, .inl gW)), (wa, .inl (cI, 72, .inl a1)), (wb, .inl (cI, 72, .inl b1)), (wf, .inl (cI, 72, .inl c1)), (li, .inl (cI, 240, .inl lim))] H ∧ va_D A [(m, .inr (6, [.int (nI ord), .ref me, .int (nI ns), .ref ml, .ref mw, .int (nI E), .ref wa, .ref wb, .ref wf, .long y0, .long y1, .ref li])), (me, .inl (cI, 4, .inl ge)), (ml, .inl (cI, 9, .inl gL)), (mw, .inl (cI, 72, .inl gW)), (wa, .inl (cI, 72, .inl a1)), (wb, .inl (cI, 72, .inl b1)), (wf, .inl (cI, 72, .inl c1)), (li, .inl (cI, 240, .inl lim))] ∧ va_S A sZ.heap H locs ∧ (i ≤ ln s + 1) ∧ (E ≤ 9 * s + i) ∧ (sgEvs fw fb ff a1 b1 c1 E) ∧ (∀ k a b c, evS fw fb ff k a b c E = sgRaw ln wd k a b c s + sgR1 ln wd k a b c s i)) ?_ _ ⟨0, E, a1, b1, c1, fw, fb, ff, rfl, hl, hP, hD, hS, by omega, by omega, hv, fun k a b c => hsum k a b c⟩
    intro kM ls H locs hI ih17
    obtain ⟨i, E, a1, b1, c1, fw, fb, ff, hkM, hl, hP, hD, hS, hi, hE, hv, hsum⟩ := hI
    refine lv_iload_n hx hb dX6_look_17 rfl (lv_at hl 0 rfl) ?_
    refine lv_aload_n hx hb dX6_look_18 rfl (lv_at hl 2 rfl) ?_
    refine va_get (D := D) (ci := 6) (v := .ref ml) (C := RX6) (T := TX6) (N := 12) hx hb hts hinX6 hown hK.1 hP 0 rfl rfl 3 (by decide) (hts _ fl_X6_17) (fun _ h9 => h9) rfl dX6_look_19 ?_
    refine lv_iload_n hx hb dX6_look_22 rfl (lv_at hl 1 rfl) ?_
    refine n_iald (v := nI (ln s)) hx hb hK.1 hP 2 0 rfl rfl (by omega) (by omega) hLs dX6_look_23 ?_
    refine ci_icmp_gt (X := ((i : Nat) : Int)) (Y := ((ln s : Nat) : Int)) (tgt := 92) hx hb (sg_n (by omega)) (sg_n (by omega)) dX6_look_24 rfl (fun h24 => ?_) (fun h24 => ?_)
    · refine lv_iinc (v := nI (s + 1)) hx hb dX6_look_92 hl (k := 1) rfl (sg_inc _) (by decide) rfl (fun ls hl => ?_)
      have hl : lv_has ls 3 [(1, .int (nI (s + 1))), (2, .int (nI i)), (0, .ref m)] := hl
      refine lv_goto (tgt := 7) hx hb dX6_look_95 rfl ?_
      exact ih7 _ _ _ _ ⟨s + 1, E, a1, b1, c1, fw, fb, ff, rfl, lv_sub hl [0, 2] rfl, hP, hD, hS, by omega, by omega, hv, fun k a b c => by rw [hsum k a b c, show i = ln s + 1 by omega]; rfl⟩ (by omega)
    · refine lv_aload_n hx hb dX6_look_27 rfl (lv_at hl 2 rfl) ?_
      refine va_get (D := D) (ci := 6) (v := .ref wa) (C := RX6) (T := TX6) (N := 12) hx hb hts hinX6 hown hK.1 hP 0 rfl rfl 6 (by decide) (hts _ fl_X6_23) (fun _ h9 => h9) rfl dX6_look_28 ?_
      refine lv_aload_n hx hb dX6_look_31 rfl (lv_at hl 2 rfl) ?_
      refine va_get (D := D) (ci := 6) (v := .int (nI E)) (C := RX6) (T := TX6) (N := 12) hx hb hts hinX6 hown hK.1 hP 0 rfl rfl 5 (by decide) (hts _ fl_X6_38) (fun _ h9 => h9) rfl dX6_look_32 ?_
      refine lv_aload_n hx hb dX6_look_35 rfl (lv_at hl 2 rfl) ?_
      refine lv_iload_n hx hb dX6_look_36 rfl (lv_at hl 1 rfl) ?_
      refine lv_iload_n hx hb dX6_look_37 rfl (lv_at hl 0 rfl) ?_
      refine sg_callRi (va_runV (As := [.int (nI s), .int (nI i)]) (rest := [.int (nI E), .ref wa]) (C := RX6) ⟨hx, hb, hml, hown, hts⟩ (c_X6_symbolAt l D cI cO m me ml mw wa wb wf li ord ns (nI E) y0 y1 ge gL gW a1 b1 c1 lim ln wd s (nI i) (i + 2) (by omega) hLs hl8 hWs (by have h9 := sg_n (n := i) (by omega); omega)) ⟨(sg_cB 2 hts mcX6_symbolAt ml_X6_41 in_X6 rfl rfl (by decide +kernel) ⟨Nat.le_of_ble_eq_true rfl, Nat.le_of_ble_eq_true rfl⟩), hts _ im_X6_symbolAt, hts _ se_X6_symbolAt⟩ (sg_pV (q0 := 0) hK hP [0, 1, 2, 3, 4, 5, 6, 7] rfl rfl rfl rfl) rfl rfl hl.1 rfl (lv_room (Nat.le_of_ble_eq_true rfl)) dX6_look_38 ⟨Nat.zero_le _, Nat.zero_le _⟩) ?_
      refine n_iast hx hb hK.1 hP hD hS 4 0 rfl rfl (by omega) (by omega) dX6_look_41 (fun H locs hP hD hS => ?_)
      have hP : va_P D vwCl [(m, .inr (6, [.int (nI ord), .ref me, .int (nI ns), .ref ml, .ref mw, .int (nI E), .ref wa, .ref wb, .ref wf, .long y0, .long y1, .ref li])), (me, .inl (cI, 4, .inl ge)), (ml, .inl (cI, 9, .inl gL)), (mw, .inl (cI, 72, .inl gW)), (wa, .inl (cI, 72, .inl (upd a1 E (nI (sgSy ln wd s (i + 2)))))), (wb, .inl (cI, 72, .inl b1)), (wf, .inl (cI, 72, .inl c1)), (li, .inl (cI, 240, .inl lim))] H := hP
      have hD : va_D A [(m, .inr (6, [.int (nI ord), .ref me, .int (nI ns), .ref ml, .ref mw, .int (nI E), .ref wa, .ref wb, .ref wf, .long y0, .long y1, .ref li])), (me, .inl (cI, 4, .inl ge)), (ml, .inl (cI, 9, .inl gL)), (mw, .inl (cI, 72, .inl gW)), (wa, .inl (cI, 72, .inl (upd a1 E (nI (sgSy ln wd s (i + 2)))))), (wb, .inl (cI, 72, .inl b1)), (wf, .inl (cI, 72, .inl c1)), (li, .inl (cI, 240, .inl lim))] := hD
      refine lv_aload_n hx hb dX6_look_42 rfl (lv_at hl 2 rfl) ?_
      refine va_get (D := D) (ci := 6) (v := .ref wb) (C := RX6) (T := TX6) (N := 12) hx hb hts hinX6 hown hK.1 hP 0 rfl rfl 7 (by decide) (hts _ fl_X6_26) (fun _ h9 => h9) rfl dX6_look_43 ?_
      refine lv_aload_n hx hb dX6_look_46 rfl (lv_at hl 2 rfl) ?_
      refine va_get (D := D) (ci := 6) (v := .int (nI E)) (C := RX6) (T := TX6) (N := 12) hx hb hts hinX6 hown hK.1 hP 0 rfl rfl 5 (by decide) (hts _ fl_X6_38) (fun _ h9 => h9) rfl dX6_look_47 ?_
      refine lv_aload_n hx hb dX6_look_50 rfl (lv_at hl 2 rfl) ?_
      refine lv_iload_n hx hb dX6_look_51 rfl (lv_at hl 1 rfl) ?_
      refine lv_iload_n hx hb dX6_look_52 rfl (lv_at hl 0 rfl) ?_
      refine lv_iconst (v := nI 1) hx hb dX6_look_53 (by decide) ?_
      refine lv_isub hx hb dX6_look_54 ?_
      refine sg_callRi (va_runV (As := [.int (nI s), .int ((nI i) - (nI 1))]) (rest := [.int (nI E), .ref wb]) (C := RX6) ⟨hx, hb, hml, hown, hts⟩ (c_X6_symbolAt l D cI cO m me ml mw wa wb wf li ord ns (nI E) y0 y1 ge gL gW (upd a1 E (nI (sgSy ln wd s (i + 2)))) b1 c1 lim ln wd s ((nI i) - (nI 1)) (i + 1) (by omega) hLs hl8 hWs (by have h9 := pk_sub_toInt (a := i) (b := 1) (by omega) (by omega); omega)) ⟨(sg_cB 2 hts mcX6_symbolAt ml_X6_41 in_X6 rfl rfl (by decide +kernel) ⟨Nat.le_of_ble_eq_true rfl, Nat.le_of_ble_eq_true rfl⟩), hts _ im_X6_symbolAt, hts _ se_X6_symbolAt⟩ (sg_pV (q0 := 0) hK hP [0, 1, 2, 3, 4, 5, 6, 7] rfl rfl rfl rfl) rfl rfl hl.1 rfl (lv_room (Nat.le_of_ble_eq_true rfl)) dX6_look_55 ⟨Nat.zero_le _, Nat.zero_le _⟩) ?_
      refine n_iast hx hb hK.1 hP hD hS 5 0 rfl rfl (by omega) (by omega) dX6_look_58 (fun H locs hP hD hS => ?_)
      have hP : va_P D vwCl [(m, .inr (6, [.int (nI ord), .ref me, .int (nI ns), .ref ml, .ref mw, .int (nI E), .ref wa, .ref wb, .ref wf, .long y0, .long y1, .ref li])), (me, .inl (cI, 4, .inl ge)), (ml, .inl (cI, 9, .inl gL)), (mw, .inl (cI, 72, .inl gW)), (wa, .inl (cI, 72, .inl (upd a1 E (nI (sgSy ln wd s (i + 2)))))), (wb, .inl (cI, 72, .inl (upd b1 E (nI (sgSy ln wd s (i + 1)))))), (wf, .inl (cI, 72, .inl c1)), (li, .inl (cI, 240, .inl lim))] H := hP
      have hD : va_D A [(m, .inr (6, [.int (nI ord), .ref me, .int (nI ns), .ref ml, .ref mw, .int (nI E), .ref wa, .ref wb, .ref wf, .long y0, .long y1, .ref li])), (me, .inl (cI, 4, .inl ge)), (ml, .inl (cI, 9, .inl gL)), (mw, .inl (cI, 72, .inl gW)), (wa, .inl (cI, 72, .inl (upd a1 E (nI (sgSy ln wd s (i + 2)))))), (wb, .inl (cI, 72, .inl (upd b1 E (nI (sgSy ln wd s (i + 1)))))), (wf, .inl (cI, 72, .inl c1)), (li, .inl (cI, 240, .inl lim))] := hD
      refine lv_aload_n hx hb dX6_look_59 rfl (lv_at hl 2 rfl) ?_
      refine va_get (D := D) (ci := 6) (v := .ref wf) (C := RX6) (T := TX6) (N := 12) hx hb hts hinX6 hown hK.1 hP 0 rfl rfl 8 (by decide) (hts _ fl_X6_29) (fun _ h9 => h9) rfl dX6_look_60 ?_
      refine lv_aload_n hx hb dX6_look_63 rfl (lv_at hl 2 rfl) ?_
      refine va_get (D := D) (ci := 6) (v := .int (nI E)) (C := RX6) (T := TX6) (N := 12) hx hb hts hinX6 hown hK.1 hP 0 rfl rfl 5 (by decide) (hts _ fl_X6_38) (fun _ h9 => h9) rfl dX6_look_64 ?_
      refine lv_aload_n hx hb dX6_look_67 rfl (lv_at hl 2 rfl) ?_
      refine lv_iload_n hx hb dX6_look_68 rfl (lv_at hl 1 rfl) ?_
      refine lv_iload_n hx hb dX6_look_69 rfl (lv_at hl 0 rfl) ?_
      refine lv_iconst (v := nI 2) hx hb dX6_look_70 (by decide) ?_
      refine lv_isub hx hb dX6_look_71 ?_
      refine sg_callRi (va_runV (As := [.int (nI s), .int ((nI i) - (nI 2))]) (rest := [.int (nI E), .ref wf]) (C := RX6) ⟨hx, hb, hml, hown, hts⟩ (c_X6_symbolAt l D cI cO m me ml mw wa wb wf li ord ns (nI E) y0 y1 ge gL gW (upd a1 E (nI (sgSy ln wd s (i + 2)))) (upd b1 E (nI (sgSy ln wd s (i + 1)))) c1 lim ln wd s ((nI i) - (nI 2)) i (by omega) hLs hl8 hWs (by have h9 := pk_sub_toInt (a := i) (b := 2) (by omega) (by omega); omega)) ⟨(sg_cB 2 hts mcX6_symbolAt ml_X6_41 in_X6 rfl rfl (by decide +kernel) ⟨Nat.le_of_ble_eq_true rfl, Nat.le_of_ble_eq_true rfl⟩), hts _ im_X6_symbolAt, hts _ se_X6_symbolAt⟩ (sg_pV (q0 := 0) hK hP [0, 1, 2, 3, 4, 5, 6, 7] rfl rfl rfl rfl) rfl rfl hl.1 rfl (lv_room (Nat.le_of_ble_eq_true rfl)) dX6_look_72 ⟨Nat.zero_le _, Nat.zero_le _⟩) ?_
      refine n_iast hx hb hK.1 hP hD hS 6 0 rfl rfl (by omega) (by omega) dX6_look_75 (fun H locs hP hD hS => ?_)
      have hP : va_P D vwCl [(m, .inr (6, [.int (nI ord), .ref me, .int (nI ns), .ref ml, .ref mw, .int (nI E), .ref wa, .ref wb, .ref wf, .long y0, .long y1, .ref li])), (me, .inl (cI, 4, .inl ge)), (ml, .inl (cI, 9, .inl gL)), (mw, .inl (cI, 72, .inl gW)), (wa, .inl (cI, 72, .inl (upd a1 E (nI (sgSy ln wd s (i + 2)))))), (wb, .inl (cI, 72, .inl (upd b1 E (nI (sgSy ln wd s (i + 1)))))), (wf, .inl (cI, 72, .inl (upd c1 E (nI (sgSy ln wd s i))))), (li, .inl (cI, 240, .inl lim))] H := hP
      have hD : va_D A [(m, .inr (6, [.int (nI ord), .ref me, .int (nI ns), .ref ml, .ref mw, .int (nI E), .ref wa, .ref wb, .ref wf, .long y0, .long y1, .ref li])), (me, .inl (cI, 4, .inl ge)), (ml, .inl (cI, 9, .inl gL)), (mw, .inl (cI, 72, .inl gW)), (wa, .inl (cI, 72, .inl (upd a1 E (nI (sgSy ln wd s (i + 2)))))), (wb, .inl (cI, 72, .inl (upd b1 E (nI (sgSy ln wd s (i + 1)))))), (wf, .inl (cI, 72, .inl (upd c1 E (nI (sgSy ln wd s i))))), (li, .inl (cI, 240, .inl lim))] := hD
      refine lv_aload_n hx hb dX6_look_76 rfl (lv_at hl 2 rfl) ?_
      refine lv_aload_n hx hb dX6_look_77 rfl (lv_at hl 2 rfl) ?_
      refine va_get (D := D) (ci := 6) (v := .int (nI E)) (C := RX6) (T := TX6) (N := 12) hx hb hts hinX6 hown hK.1 hP 0 rfl rfl 5 (by decide) (hts _ fl_X6_38) (fun _ h9 => h9) rfl dX6_look_78 ?_
      refine lv_iconst (v := nI 1) hx hb dX6_look_81 (by decide) ?_
      refine n_iadd hx hb dX6_look_82 ?_
      refine va_put (D := D) (ci := 6) (v := .int (nI (E + 1))) (ty := .int) (C := RX6) (T := TX6) (N := 12) hx hb hts hinX6 tyX6 tyX6_ok nmX6 hown hK.1 hP hD hS 0 rfl rfl 5 (by decide) (hts _ fl_X6_38) (fun _ h9 => h9) rfl (by decide +kernel) rfl rfl (Nat.le_of_ble_eq_true rfl) dX6_look_83 (fun H locs hP hD hS => ?_)
      have hP : va_P D vwCl [(m, .inr (6, [.int (nI ord), .ref me, .int (nI ns), .ref ml, .ref mw, .int (nI (E + 1)), .ref wa, .ref wb, .ref wf, .long y0, .long y1, .ref li])), (me, .inl (cI, 4, .inl ge)), (ml, .inl (cI, 9, .inl gL)), (mw, .inl (cI, 72, .inl gW)), (wa, .inl (cI, 72, .inl (upd a1 E (nI (sgSy ln wd s (i + 2)))))), (wb, .inl (cI, 72, .inl (upd b1 E (nI (sgSy ln wd s (i + 1)))))), (wf, .inl (cI, 72, .inl (upd c1 E (nI (sgSy ln wd s i))))), (li, .inl (cI, 240, .inl lim))] H := hP
      have hD : va_D A [(m, .inr (6, [.int (nI ord), .ref me, .int (nI ns), .ref ml, .ref mw, .int (nI (E + 1)), .ref wa, .ref wb, .ref wf, .long y0, .long y1, .ref li])), (me, .inl (cI, 4, .inl ge)), (ml, .inl (cI, 9, .inl gL)), (mw, .inl (cI, 72, .inl gW)), (wa, .inl (cI, 72, .inl (upd a1 E (nI (sgSy ln wd s (i + 2)))))), (wb, .inl (cI, 72, .inl (upd b1 E (nI (sgSy ln wd s (i + 1)))))), (wf, .inl (cI, 72, .inl (upd c1 E (nI (sgSy ln wd s i))))), (li, .inl (cI, 240, .inl lim))] := hD
      refine lv_iinc (v := nI (i + 1)) hx hb dX6_look_86 hl (k := 0) rfl (sg_inc _) (by decide) rfl (fun ls hl => ?_)
      have hl : lv_has ls 3 [(2, .int (nI (i + 1))), (1, .int (nI s)), (0, .ref m)] := hl
      refine lv_goto (tgt := 17) hx hb dX6_look_89 rfl ?_
      exact ih17 _ _ _ _ ⟨i + 1, E + 1, upd a1 E (nI (sgSy ln wd s (i + 2))), upd b1 E (nI (sgSy ln wd s (i + 1))), upd c1 E (nI (sgSy ln wd s i)), upN fw E (sgSy ln wd s (i + 2)), upN fb E (sgSy ln wd s (i + 1)), upN ff E (sgSy ln wd s i), rfl, lv_sub hl [0, 1, 2] rfl, hP, hD, hS, by omega, by omega, sgEvs_put hv (sgSy_lt hds _) (sgSy_lt hds _) (sgSy_lt hds _), evS_step hsum⟩ (by omega)
set_option maxHeartbeats 4000000 in
set_option maxRecDepth 100000 in
theorem c_X6_raw (l : Launch) (D : va_G) (cI cO : ClassId) (m : Nat) (me : Nat) (ml : Nat) (mw : Nat) (wa : Nat) (wb : Nat) (wf : Nat) (li : Nat) (ord : Nat) (ns : Nat) (y0 : Int64) (y1 : Int64) (ge : Nat → Int32) (gL : Nat → Int32) (gW : Nat → Int32) (ga : Nat → Int32) (gb : Nat → Int32) (gf : Nat → Int32) (lim : Nat → Int32) (E : Nat) (rw : Nat → Nat → Nat → Nat → Nat) (k : Nat) (x : Int32) (y : Int32) (a : Nat) (b : Nat) (v : Nat) (hEv : sgEv rw ga gb gf E) (hk : 1 ≤ k ∧ k ≤ 3) (hy : 2 ≤ k → y = nI b) (hz : 3 ≤ k → x = nI a) (ha : a < 7) (hbb : b < 7) (hv : v < 7) : Met l yX6_raw (.code yX6_raw cX6_raw 8 (some .int) :: sgT) ({ frames := 0, cells := 0, slots := 0, locals := 0 }) (sgPc D cI cO [.ref m, .int (nI k), .int x, .int y, .int (nI v)] [(m, .inr (6, [.int (nI ord), .ref me, .int (nI ns), .ref ml, .ref mw, .int (nI E), .ref wa, .ref wb, .ref wf, .long y0, .long y1, .ref li])), (me, .inl (cI, 4, .inl ge)), (ml, .inl (cI, 9, .inl gL)), (mw, .inl (cI, 72, .inl gW)), (wa, .inl (cI, 72, .inl ga)), (wb, .inl (cI, 72, .inl gb)), (wf, .inl (cI, 72, .inl gf)), (li, .inl (cI, 240, .inl lim))]) (vp_Si (fun r => r = nI (rw k a b v))) 0 0 (fun _ => False) := by
  refine Met.ofW (cc := cX6_raw) (maxL := 8) (ret := (some .int)) (by decide) rfl ?_
  intro pZ eZ sZ mZ argsZ belowZ methZ cZ s₁ BZ hml hv
  obtain ⟨rfl, hP, hK⟩ := hv
  have hx := BZ.exec
  have hb := BZ.bytes
  have hr := BZ.returns
  have hts : ∀ wZ ∈ sgT, wZ.before ([.ref m, .int (nI k), .int x, .int y, .int (nI v)] : List Value).toArray sZ = true := fun wZ h => atoms_spec (ws := (.code yX6_raw cX6_raw 8 (some .int) :: sgT)) BZ.pre wZ (List.mem_cons_of_mem _ h)
  have hown : sZ.vm.findClass RX6 = some mZ.cls := findClass_of_methodNamed BZ.named
  have hlocks := BZ.notSynchronized
  have hl := lv_entry ([.ref m, .int (nI k), .int x, .int y, .int (nI v)]) (n := 8) (Nat.le_of_ble_eq_true rfl)
  rw [lg_entry_eq]
  generalize (lg_sl ([.ref m, .int (nI k), .int x, .int y, .int (nI v)]) ++ List.replicate (8 - (lg_sl ([.ref m, .int (nI k), .int x, .int y, .int (nI v)])).length) Slot.unset).toArray = ls at hl ⊢
  have hl : lv_has ls 8 [(0, .ref m), (1, .int (nI k)), (2, .int x), (3, .int y), (4, .int (nI v))] := hl
  obtain ⟨fw, fb, ff, hE72, hev, hsum⟩ := hEv
  refine lv_iconst (v := nI 0) hx hb dX6_raw_0 (by decide) ?_
  refine lv_istore hx hb dX6_raw_1 hl (by decide) rfl (fun ls hl => ?_)
  have hl : lv_has ls 8 [(5, .int (nI 0)), (0, .ref m), (1, .int (nI k)), (2, .int x), (3, .int y), (4, .int (nI v))] := hl
  refine lv_iconst (v := nI 0) hx hb dX6_raw_3 (by decide) ?_
  refine lv_istore hx hb dX6_raw_4 hl (by decide) rfl (fun ls hl => ?_)
  have hl : lv_has ls 8 [(6, .int (nI 0)), (5, .int (nI 0)), (0, .ref m), (1, .int (nI k)), (2, .int x), (3, .int y), (4, .int (nI v))] := hl
  refine sw_loopR (I := fun kM ls => ∃ (t : Nat) (n : Nat), kM = E - t ∧ lv_has ls 8 [(6, .int (nI t)), (5, .int (nI n)), (0, .ref m), (1, .int (nI k)), (2, .int x), (3, .int y), (4, .int (nI v))] ∧ (t ≤ E) ∧ (n = evS fw fb ff k a b v t)) ?_ _ ⟨0, 0, rfl, hl, by omega, rfl⟩
  intro kM ls hI ih6
  obtain ⟨t, n, hkM, hl, hi, hn⟩ := hI
  refine lv_iload hx hb dX6_raw_6 (lv_at hl 0 rfl) ?_
  refine lv_aload_n hx hb dX6_raw_8 rfl (lv_at hl 2 rfl) ?_
  refine va_get (D := D) (ci := 6) (v := .int (nI E)) (C := RX6) (T := TX6) (N := 12) hx hb hts hinX6 hown hK.1 hP 0 rfl rfl 5 (by decide) (hts _ fl_X6_38) (fun _ h9 => h9) rfl dX6_raw_9 ?_
  refine ci_icmp_ge (X := ((t : Nat) : Int)) (Y := ((E : Nat) : Int)) (tgt := 88) hx hb (sg_n (by omega)) (sg_n (by omega)) dX6_raw_12 rfl (fun h12 => ?_) (fun h12 => ?_)
  · refine lv_iload hx hb dX6_raw_88 (lv_at hl 1 rfl) ?_
    exact W.iret hx hb hr (fun tZ ht hW => ⟨_, rfl, (by rw [hn, show t = E by omega, hsum]), ht⟩) (fun q h => by cases h) dX6_raw_90
  · refine sw_cutR 64 (I := fun st ls => ∃ (q : Nat), st = [.int (nI q)] ∧ lv_has ls 8 [(6, .int (nI t)), (5, .int (nI n)), (0, .ref m), (1, .int (nI k)), (2, .int x), (3, .int y), (4, .int (nI v))] ∧ (q = if sgM k a b v (ff t) (fb t) (fw t) = true then 1 else 0) ∧ (q ≤ 1)) ?_ (fun cu64 => ?_)
    · intro st ls hI
      obtain ⟨q, rfl, hl, hq, hq1⟩ := hI
      refine lv_istore hx hb dX6_raw_64 hl (by decide) rfl (fun ls hl => ?_)
      have hl : lv_has ls 8 [(7, .int (nI q)), (6, .int (nI t)), (5, .int (nI n)), (0, .ref m), (1, .int (nI k)), (2, .int x), (3, .int y), (4, .int (nI v))] := hl
      refine lv_iload hx hb dX6_raw_66 (lv_at hl 0 rfl) ?_
      refine ci_if_eq (X := ((q : Nat) : Int)) (tgt := 78) hx hb (sg_n (by omega)) dX6_raw_68 rfl (fun h68 => ?_) (fun h68 => ?_)
      · refine lv_iload hx hb dX6_raw_78 (lv_at hl 2 rfl) ?_
        refine lv_istore hx hb dX6_raw_80 hl (by decide) rfl (fun ls hl => ?_)
        have hl : lv_has ls 8 [(5, .int (nI n)), (7, .int (nI q)), (6, .int (nI t)), (0, .ref m), (1, .int (nI k)), (2, .int x), (3, .int y), (4, .int (nI v))] := hl
        refine lv_iinc (v := nI (t + 1)) hx hb dX6_raw_82 hl (k := 2) rfl (sg_inc _) (by decide) rfl (fun ls hl => ?_)
        have hl : lv_has ls 8 [(6, .int (nI (t + 1))), (5, .int (nI n)), (7, .int (nI q)), (0, .ref m), (1, .int (nI k)), (2, .int x), (3, .int y), (4, .int (nI v))] := hl
        refine lv_goto (tgt := 6) hx hb dX6_raw_85 rfl ?_
        exact ih6 _ _ ⟨t + 1, n, rfl, lv_sub hl [0, 1, 3, 4, 5, 6, 7] rfl, by omega, evS_next hn hq (by omega)⟩ (by omega)
      · refine lv_iload hx hb dX6_raw_71 (lv_at hl 2 rfl) ?_
        refine lv_iconst (v := nI 1) hx hb dX6_raw_73 (by decide) ?_
        refine n_iadd hx hb dX6_raw_74 ?_
        refine lv_goto (tgt := 80) hx hb dX6_raw_75 rfl ?_
        refine lv_istore hx hb dX6_raw_80 hl (by decide) rfl (fun ls hl => ?_)
        have hl : lv_has ls 8 [(5, .int (nI (n + 1))), (7, .int (nI q)), (6, .int (nI t)), (0, .ref m), (1, .int (nI k)), (2, .int x), (3, .int y), (4, .int (nI v))] := hl
        refine lv_iinc (v := nI (t + 1)) hx hb dX6_raw_82 hl (k := 2) rfl (sg_inc _) (by decide) rfl (fun ls hl => ?_)
        have hl : lv_has ls 8 [(6, .int (nI (t + 1))), (5, .int (nI (n + 1))), (7, .int (nI q)), (0, .ref m), (1, .int (nI k)), (2, .int x), (3, .int y), (4, .int (nI v))] := hl
        refine lv_goto (tgt := 6) hx hb dX6_raw_85 rfl ?_
        exact ih6 _ _ ⟨t + 1, n + 1, rfl, lv_sub hl [0, 1, 3, 4, 5, 6, 7] rfl, by omega, evS_next hn hq (by omega)⟩ (by omega)
    obtain ⟨e1, e2, e3, l1, l2, l3⟩ := hev t (by omega)
    refine lv_aload_n hx hb dX6_raw_15 rfl (lv_at hl 2 rfl) ?_
    refine va_get (D := D) (ci := 6) (v := .ref wa) (C := RX6) (T := TX6) (N := 12) hx hb hts hinX6 hown hK.1 hP 0 rfl rfl 6 (by decide) (hts _ fl_X6_23) (fun _ h9 => h9) rfl dX6_raw_16 ?_
    refine lv_iload hx hb dX6_raw_19 (lv_at hl 0 rfl) ?_
    refine n_iald (v := nI (fw t)) hx hb hK.1 hP 4 0 rfl rfl (by omega) (by omega) e1 dX6_raw_21 ?_
    refine lv_iload hx hb dX6_raw_22 (lv_at hl 6 rfl) ?_
    refine ci_icmp_ne (X := ((fw t : Nat) : Int)) (Y := ((v : Nat) : Int)) (tgt := 63) hx hb (sg_n (by omega)) (sg_n (by omega)) dX6_raw_24 rfl (fun h24 => ?_) (fun h24 => ?_)
    · refine lv_iconst (v := nI 0) hx hb dX6_raw_63 (by decide) ?_
      exact cu64 _ _ ⟨0, rfl, lv_sub hl [0, 1, 2, 3, 4, 5, 6] rfl, by rw [if_neg (fun q9 => by have h9 := sgM_iff.mp q9; omega)], by omega⟩
    · refine lv_iload_n hx hb dX6_raw_27 rfl (lv_at hl 3 rfl) ?_
      refine lv_iconst (v := nI 2) hx hb dX6_raw_28 (by decide) ?_
      refine ci_icmp_lt (X := ((k : Nat) : Int)) (Y := ((2 : Nat) : Int)) (tgt := 43) hx hb (sg_n (by omega)) (sg_n (by omega)) dX6_raw_29 rfl (fun h29 => ?_) (fun h29 => ?_)
      · refine lv_iload_n hx hb dX6_raw_43 rfl (lv_at hl 3 rfl) ?_
        refine lv_iconst (v := nI 3) hx hb dX6_raw_44 (by decide) ?_
        refine ci_icmp_lt (X := ((k : Nat) : Int)) (Y := ((3 : Nat) : Int)) (tgt := 59) hx hb (sg_n (by omega)) (sg_n (by omega)) dX6_raw_45 rfl (fun h45 => ?_) (fun h45 => ?_)
        · refine lv_iconst (v := nI 1) hx hb dX6_raw_59 (by decide) ?_
          refine lv_goto (tgt := 64) hx hb dX6_raw_60 rfl ?_
          exact cu64 _ _ ⟨1, rfl, lv_sub hl [0, 1, 2, 3, 4, 5, 6] rfl, by rw [if_pos (sgM_iff.mpr (by omega))], by omega⟩
        · refine lv_aload_n hx hb dX6_raw_48 rfl (lv_at hl 2 rfl) ?_
          refine va_get (D := D) (ci := 6) (v := .ref wf) (C := RX6) (T := TX6) (N := 12) hx hb hts hinX6 hown hK.1 hP 0 rfl rfl 8 (by decide) (hts _ fl_X6_29) (fun _ h9 => h9) rfl dX6_raw_49 ?_
          refine lv_iload hx hb dX6_raw_52 (lv_at hl 0 rfl) ?_
          refine n_iald (v := nI (ff t)) hx hb hK.1 hP 6 0 rfl rfl (by omega) (by omega) e3 dX6_raw_54 ?_
          refine lv_iload_n hx hb dX6_raw_55 rfl (lv_at hl 4 rfl) ?_
          refine sw_i (y := nI a) (hz (by omega)) ?_
          refine ci_icmp_ne (X := ((ff t : Nat) : Int)) (Y := ((a : Nat) : Int)) (tgt := 63) hx hb (sg_n (by omega)) (sg_n (by omega)) dX6_raw_56 rfl (fun h56 => ?_) (fun h56 => ?_)
          · refine lv_iconst (v := nI 0) hx hb dX6_raw_63 (by decide) ?_
            exact cu64 _ _ ⟨0, rfl, lv_sub hl [0, 1, 2, 3, 4, 5, 6] rfl, by rw [if_neg (fun q9 => by have h9 := sgM_iff.mp q9; omega)], by omega⟩
          · refine lv_iconst (v := nI 1) hx hb dX6_raw_59 (by decide) ?_
            refine lv_goto (tgt := 64) hx hb dX6_raw_60 rfl ?_
            exact cu64 _ _ ⟨1, rfl, lv_sub hl [0, 1, 2, 3, 4, 5, 6] rfl, by rw [if_pos (sgM_iff.mpr (by omega))], by omega⟩
      · refine lv_aload_n hx hb dX6_raw_32 rfl (lv_at hl 2 rfl) ?_
        refine va_get (D := D) (ci := 6) (v := .ref wb) (C := RX6) (T := TX6) (N := 12) hx hb hts hinX6 hown hK.1 hP 0 rfl rfl 7 (by decide) (hts _ fl_X6_26) (fun _ h9 => h9) rfl dX6_raw_33 ?_
        refine lv_iload hx hb dX6_raw_36 (lv_at hl 0 rfl) ?_
        refine n_iald (v := nI (fb t)) hx hb hK.1 hP 5 0 rfl rfl (by omega) (by omega) e2 dX6_raw_38 ?_
        refine lv_iload_n hx hb dX6_raw_39 rfl (lv_at hl 5 rfl) ?_
        refine sw_i (y := nI b) (hy (by omega)) ?_
        refine ci_icmp_ne (X := ((fb t : Nat) : Int)) (Y := ((b : Nat) : Int)) (tgt := 63) hx hb (sg_n (by omega)) (sg_n (by omega)) dX6_raw_40 rfl (fun h40 => ?_) (fun h40 => ?_)
        · refine lv_iconst (v := nI 0) hx hb dX6_raw_63 (by decide) ?_
          exact cu64 _ _ ⟨0, rfl, lv_sub hl [0, 1, 2, 3, 4, 5, 6] rfl, by rw [if_neg (fun q9 => by have h9 := sgM_iff.mp q9; omega)], by omega⟩
        · refine lv_iload_n hx hb dX6_raw_43 rfl (lv_at hl 3 rfl) ?_
          refine lv_iconst (v := nI 3) hx hb dX6_raw_44 (by decide) ?_
          refine ci_icmp_lt (X := ((k : Nat) : Int)) (Y := ((3 : Nat) : Int)) (tgt := 59) hx hb (sg_n (by omega)) (sg_n (by omega)) dX6_raw_45 rfl (fun h45 => ?_) (fun h45 => ?_)
          · refine lv_iconst (v := nI 1) hx hb dX6_raw_59 (by decide) ?_
            refine lv_goto (tgt := 64) hx hb dX6_raw_60 rfl ?_
            exact cu64 _ _ ⟨1, rfl, lv_sub hl [0, 1, 2, 3, 4, 5, 6] rfl, by rw [if_pos (sgM_iff.mpr (by omega))], by omega⟩
          · refine lv_aload_n hx hb dX6_raw_48 rfl (lv_at hl 2 rfl) ?_
            refine va_get (D := D) (ci := 6) (v := .ref wf) (C := RX6) (T := TX6) (N := 12) hx hb hts hinX6 hown hK.1 hP 0 rfl rfl 8 (by decide) (hts _ fl_X6_29) (fun _ h9 => h9) rfl dX6_raw_49 ?_
            refine lv_iload hx hb dX6_raw_52 (lv_at hl 0 rfl) ?_
            refine n_iald (v := nI (ff t)) hx hb hK.1 hP 6 0 rfl rfl (by omega) (by omega) e3 dX6_raw_54 ?_
            refine lv_iload_n hx hb dX6_raw_55 rfl (lv_at hl 4 rfl) ?_
            refine sw_i (y := nI a) (hz (by omega)) ?_
            refine ci_icmp_ne (X := ((ff t : Nat) : Int)) (Y := ((a : Nat) : Int)) (tgt := 63) hx hb (sg_n (by omega)) (sg_n (by omega)) dX6_raw_56 rfl (fun h56 => ?_) (fun h56 => ?_)
            · refine lv_iconst (v := nI 0) hx hb dX6_raw_63 (by decide) ?_
              exact cu64 _ _ ⟨0, rfl, lv_sub hl [0, 1, 2, 3, 4, 5, 6] rfl, by rw [if_neg (fun q9 => by have h9 := sgM_iff.mp q9; omega)], by omega⟩
            · refine lv_iconst (v := nI 1) hx hb dX6_raw_59 (by decide) ?_
              refine lv_goto (tgt := 64) hx hb dX6_raw_60 rfl ?_
              exact cu64 _ _ ⟨1, rfl, lv_sub hl [0, 1, 2, 3, 4, 5, 6] rfl, by rw [if_pos (sgM_iff.mpr (by omega))], by omega⟩
set_option maxHeartbeats 4000000 in
set_option maxRecDepth 100000 in
theorem c_X6_countOf (l : Launch) (D : va_G) (cI cO : ClassId) (m : Nat) (me : Nat) (ml : Nat) (mw : Nat) (wa : Nat) (wb : Nat) (wf : Nat) (li : Nat) (ord : Nat) (ns : Nat) (y0 : Int64) (y1 : Int64) (ge : Nat → Int32) (gL : Nat → Int32) (gW : Nat → Int32) (ga : Nat → Int32) (gb : Nat → Int32) (gf : Nat → Int32) (lim : Nat → Int32) (E : Nat) (rw : Nat → Nat → Nat → Nat → Nat) (k : Nat) (x : Int32) (y : Int32) (a : Nat) (b : Nat) (v : Nat) (hEv : sgEv rw ga gb gf E) (hB : sgBd rw) (ho : 1 ≤ ord ∧ ord ≤ 3) (hk : 1 ≤ k ∧ k ≤ 3) (hy : 2 ≤ k → y = nI b) (hz : 3 ≤ k → x = nI a) (ha : a < 7) (hbb : b < 7) (hv : v < 7) : Met l yX6_countOf (.code yX6_countOf cX6_countOf 8 (some .int) :: sgT) ({ frames := 1, cells := 0, slots := 0, locals := 27 }) (sgPc D cI cO [.ref m, .int (nI k), .int x, .int y, .int (nI v)] [(m, .inr (6, [.int (nI ord), .ref me, .int (nI ns), .ref ml, .ref mw, .int (nI E), .ref wa, .ref wb, .ref wf, .long y0, .long y1, .ref li])), (me, .inl (cI, 4, .inl ge)), (ml, .inl (cI, 9, .inl gL)), (mw, .inl (cI, 72, .inl gW)), (wa, .inl (cI, 72, .inl ga)), (wb, .inl (cI, 72, .inl gb)), (wf, .inl (cI, 72, .inl gf)), (li, .inl (cI, 240, .inl lim))]) (vp_Si (fun r => r = nI (sgC rw ord k a b v))) 0 0 (fun _ => False) := by
  refine Met.ofW (cc := cX6_countOf) (maxL := 8) (ret := (some .int)) (by decide) rfl ?_
  intro pZ eZ sZ mZ argsZ belowZ methZ cZ s₁ BZ hml hv
  obtain ⟨rfl, hP, hK⟩ := hv
  have hx := BZ.exec
  have hb := BZ.bytes
  have hr := BZ.returns
  have hts : ∀ wZ ∈ sgT, wZ.before ([.ref m, .int (nI k), .int x, .int y, .int (nI v)] : List Value).toArray sZ = true := fun wZ h => atoms_spec (ws := (.code yX6_countOf cX6_countOf 8 (some .int) :: sgT)) BZ.pre wZ (List.mem_cons_of_mem _ h)
  have hown : sZ.vm.findClass RX6 = some mZ.cls := findClass_of_methodNamed BZ.named
  have hlocks := BZ.notSynchronized
  have hl := lv_entry ([.ref m, .int (nI k), .int x, .int y, .int (nI v)]) (n := 8) (Nat.le_of_ble_eq_true rfl)
  rw [lg_entry_eq]
  generalize (lg_sl ([.ref m, .int (nI k), .int x, .int y, .int (nI v)]) ++ List.replicate (8 - (lg_sl ([.ref m, .int (nI k), .int x, .int y, .int (nI v)])).length) Slot.unset).toArray = ls at hl ⊢
  have hl : lv_has ls 8 [(0, .ref m), (1, .int (nI k)), (2, .int x), (3, .int y), (4, .int (nI v))] := hl
  refine lv_iload_n hx hb dX6_countOf_0 rfl (lv_at hl 1 rfl) ?_
  refine lv_aload_n hx hb dX6_countOf_1 rfl (lv_at hl 0 rfl) ?_
  refine va_get (D := D) (ci := 6) (v := .int (nI ord)) (C := RX6) (T := TX6) (N := 12) hx hb hts hinX6 hown hK.1 hP 0 rfl rfl 0 (by decide) (hts _ fl_X6_7) (fun _ h9 => h9) rfl dX6_countOf_2 ?_
  refine ci_icmp_lt (X := ((k : Nat) : Int)) (Y := ((ord : Nat) : Int)) (tgt := 30) hx hb (sg_n (by omega)) (sg_n (by omega)) dX6_countOf_5 rfl (fun h5 => ?_) (fun h5 => ?_)
  · refine lv_iconst (v := nI 0) hx hb dX6_countOf_30 (by decide) ?_
    refine lv_istore hx hb dX6_countOf_31 hl (by decide) rfl (fun ls hl => ?_)
    have hl : lv_has ls 8 [(5, .int (nI 0)), (0, .ref m), (1, .int (nI k)), (2, .int x), (3, .int y), (4, .int (nI v))] := hl
    refine lv_iconst (v := nI 0) hx hb dX6_countOf_33 (by decide) ?_
    refine lv_istore hx hb dX6_countOf_34 hl (by decide) rfl (fun ls hl => ?_)
    have hl : lv_has ls 8 [(6, .int (nI 0)), (5, .int (nI 0)), (0, .ref m), (1, .int (nI k)), (2, .int x), (3, .int y), (4, .int (nI v))] := hl
    refine sw_loopR (I := fun kM ls => ∃ (s : Nat) (n : Nat), kM = 7 - s ∧ lv_has ls 8 [(6, .int (nI s)), (5, .int (nI n)), (0, .ref m), (1, .int (nI k)), (2, .int x), (3, .int y), (4, .int (nI v))] ∧ (s ≤ 7) ∧ (n = sgBef rw k b v s)) ?_ _ ⟨0, 0, rfl, hl, by omega, rfl⟩
    intro kM ls hI ih36
    obtain ⟨s, n, hkM, hl, hi, hn⟩ := hI
    refine lv_iload hx hb dX6_countOf_36 (lv_at hl 0 rfl) ?_
    refine lv_bipush (v := nI 7) hx hb dX6_countOf_38 (by decide) ?_
    refine ci_icmp_ge (X := ((s : Nat) : Int)) (Y := ((7 : Nat) : Int)) (tgt := 95) hx hb (sg_n (by omega)) (sg_n (by omega)) dX6_countOf_40 rfl (fun h40 => ?_) (fun h40 => ?_)
    · refine lv_iload hx hb dX6_countOf_95 (lv_at hl 1 rfl) ?_
      exact W.iret hx hb hr (fun tZ ht hW => ⟨_, rfl, (by unfold sgC; first | rw [if_pos (by omega)] | rw [if_neg (by omega), if_pos (by omega)] | rw [if_neg (by omega), if_neg (by omega), hn, show s = 7 by omega]), ht⟩) (fun q h => by cases h) dX6_countOf_97
    · have hv2 := sgRw_le hB 2 0 s v
      have hv3 := sgRw_le hB 3 s b v
      refine lv_iload_n hx hb dX6_countOf_43 rfl (lv_at hl 3 rfl) ?_
      refine lv_iconst (v := nI 1) hx hb dX6_countOf_44 (by decide) ?_
      refine ci_icmp_ne (X := ((k : Nat) : Int)) (Y := ((1 : Nat) : Int)) (tgt := 61) hx hb (sg_n (by omega)) (sg_n (by omega)) dX6_countOf_45 rfl (fun h45 => ?_) (fun h45 => ?_)
      · refine lv_aload_n hx hb dX6_countOf_61 rfl (lv_at hl 2 rfl) ?_
        refine lv_iconst (v := nI 3) hx hb dX6_countOf_62 (by decide) ?_
        refine lv_iload hx hb dX6_countOf_63 (lv_at hl 0 rfl) ?_
        refine lv_iload_n hx hb dX6_countOf_65 rfl (lv_at hl 5 rfl) ?_
        refine lv_iload hx hb dX6_countOf_66 (lv_at hl 6 rfl) ?_
        refine sg_callRi (va_runV (As := [.int (nI 3), .int (nI s), .int y, .int (nI v)]) (rest := []) (C := RX6) ⟨hx, hb, hml, hown, hts⟩ (c_X6_raw l D cI cO m me ml mw wa wb wf li ord ns y0 y1 ge gL gW ga gb gf lim E rw 3 (nI s) y s b v hEv (by omega) (fun _ => hy (by omega)) (fun _ => rfl) (by omega) (by omega) (by omega)) ⟨(sg_cB 4 hts mcX6_raw ml_X6_45 in_X6 rfl rfl (by decide +kernel) ⟨Nat.le_of_ble_eq_true rfl, Nat.le_of_ble_eq_true rfl⟩), hts _ im_X6_raw, hts _ se_X6_raw⟩ (sg_pV (q0 := 0) hK hP [0, 1, 2, 3, 4, 5, 6, 7] rfl rfl rfl rfl) rfl rfl hl.1 rfl (lv_room (Nat.le_of_ble_eq_true rfl)) dX6_countOf_68 ⟨Nat.zero_le _, Nat.zero_le _⟩) ?_
        refine lv_istore hx hb dX6_countOf_71 hl (by decide) rfl (fun ls hl => ?_)
        have hl : lv_has ls 8 [(7, .int (nI (rw 3 s b v))), (6, .int (nI s)), (5, .int (nI n)), (0, .ref m), (1, .int (nI k)), (2, .int x), (3, .int y), (4, .int (nI v))] := hl
        refine lv_iload hx hb dX6_countOf_73 (lv_at hl 0 rfl) ?_
        refine ci_if_le (X := ((rw 3 s b v : Nat) : Int)) (tgt := 85) hx hb (sg_n (by omega)) dX6_countOf_75 rfl (fun h75 => ?_) (fun h75 => ?_)
        · refine lv_iload hx hb dX6_countOf_85 (lv_at hl 2 rfl) ?_
          refine lv_istore hx hb dX6_countOf_87 hl (by decide) rfl (fun ls hl => ?_)
          have hl : lv_has ls 8 [(5, .int (nI n)), (7, .int (nI (rw 3 s b v))), (6, .int (nI s)), (0, .ref m), (1, .int (nI k)), (2, .int x), (3, .int y), (4, .int (nI v))] := hl
          refine lv_iinc (v := nI (s + 1)) hx hb dX6_countOf_89 hl (k := 2) rfl (sg_inc _) (by decide) rfl (fun ls hl => ?_)
          have hl : lv_has ls 8 [(6, .int (nI (s + 1))), (5, .int (nI n)), (7, .int (nI (rw 3 s b v))), (0, .ref m), (1, .int (nI k)), (2, .int x), (3, .int y), (4, .int (nI v))] := hl
          refine lv_goto (tgt := 36) hx hb dX6_countOf_92 rfl ?_
          exact ih36 _ _ ⟨s + 1, n, rfl, lv_sub hl [0, 1, 3, 4, 5, 6, 7] rfl, by omega, by first | (rw [sgBef_p (by first | (rw [if_pos (show k = 1 by omega)]; omega) | (rw [if_neg (show ¬ k = 1 by omega)]; omega))]; omega) | (rw [sgBef_z (by first | (rw [if_pos (show k = 1 by omega)]; omega) | (rw [if_neg (show ¬ k = 1 by omega)]; omega))]; omega)⟩ (by omega)
        · refine lv_iload hx hb dX6_countOf_78 (lv_at hl 2 rfl) ?_
          refine lv_iconst (v := nI 1) hx hb dX6_countOf_80 (by decide) ?_
          refine n_iadd hx hb dX6_countOf_81 ?_
          refine lv_goto (tgt := 87) hx hb dX6_countOf_82 rfl ?_
          refine lv_istore hx hb dX6_countOf_87 hl (by decide) rfl (fun ls hl => ?_)
          have hl : lv_has ls 8 [(5, .int (nI (n + 1))), (7, .int (nI (rw 3 s b v))), (6, .int (nI s)), (0, .ref m), (1, .int (nI k)), (2, .int x), (3, .int y), (4, .int (nI v))] := hl
          refine lv_iinc (v := nI (s + 1)) hx hb dX6_countOf_89 hl (k := 2) rfl (sg_inc _) (by decide) rfl (fun ls hl => ?_)
          have hl : lv_has ls 8 [(6, .int (nI (s + 1))), (5, .int (nI (n + 1))), (7, .int (nI (rw 3 s b v))), (0, .ref m), (1, .int (nI k)), (2, .int x), (3, .int y), (4, .int (nI v))] := hl
          refine lv_goto (tgt := 36) hx hb dX6_countOf_92 rfl ?_
          exact ih36 _ _ ⟨s + 1, n + 1, rfl, lv_sub hl [0, 1, 3, 4, 5, 6, 7] rfl, by omega, by first | (rw [sgBef_p (by first | (rw [if_pos (show k = 1 by omega)]; omega) | (rw [if_neg (show ¬ k = 1 by omega)]; omega))]; omega) | (rw [sgBef_z (by first | (rw [if_pos (show k = 1 by omega)]; omega) | (rw [if_neg (show ¬ k = 1 by omega)]; omega))]; omega)⟩ (by omega)
      · refine lv_aload_n hx hb dX6_countOf_48 rfl (lv_at hl 2 rfl) ?_
        refine lv_iconst (v := nI 2) hx hb dX6_countOf_49 (by decide) ?_
        refine lv_iconst (v := nI 0) hx hb dX6_countOf_50 (by decide) ?_
        refine lv_iload hx hb dX6_countOf_51 (lv_at hl 0 rfl) ?_
        refine lv_iload hx hb dX6_countOf_53 (lv_at hl 6 rfl) ?_
        refine sg_callRi (va_runV (As := [.int (nI 2), .int (nI 0), .int (nI s), .int (nI v)]) (rest := []) (C := RX6) ⟨hx, hb, hml, hown, hts⟩ (c_X6_raw l D cI cO m me ml mw wa wb wf li ord ns y0 y1 ge gL gW ga gb gf lim E rw 2 (nI 0) (nI s) 0 s v hEv (by omega) (fun _ => rfl) (fun _ => rfl) (by omega) (by omega) (by omega)) ⟨(sg_cB 4 hts mcX6_raw ml_X6_45 in_X6 rfl rfl (by decide +kernel) ⟨Nat.le_of_ble_eq_true rfl, Nat.le_of_ble_eq_true rfl⟩), hts _ im_X6_raw, hts _ se_X6_raw⟩ (sg_pV (q0 := 0) hK hP [0, 1, 2, 3, 4, 5, 6, 7] rfl rfl rfl rfl) rfl rfl hl.1 rfl (lv_room (Nat.le_of_ble_eq_true rfl)) dX6_countOf_55 ⟨Nat.zero_le _, Nat.zero_le _⟩) ?_
        refine lv_goto (tgt := 71) hx hb dX6_countOf_58 rfl ?_
        refine lv_istore hx hb dX6_countOf_71 hl (by decide) rfl (fun ls hl => ?_)
        have hl : lv_has ls 8 [(7, .int (nI (rw 2 0 s v))), (6, .int (nI s)), (5, .int (nI n)), (0, .ref m), (1, .int (nI k)), (2, .int x), (3, .int y), (4, .int (nI v))] := hl
        refine lv_iload hx hb dX6_countOf_73 (lv_at hl 0 rfl) ?_
        refine ci_if_le (X := ((rw 2 0 s v : Nat) : Int)) (tgt := 85) hx hb (sg_n (by omega)) dX6_countOf_75 rfl (fun h75 => ?_) (fun h75 => ?_)
        · refine lv_iload hx hb dX6_countOf_85 (lv_at hl 2 rfl) ?_
          refine lv_istore hx hb dX6_countOf_87 hl (by decide) rfl (fun ls hl => ?_)
          have hl : lv_has ls 8 [(5, .int (nI n)), (7, .int (nI (rw 2 0 s v))), (6, .int (nI s)), (0, .ref m), (1, .int (nI k)), (2, .int x), (3, .int y), (4, .int (nI v))] := hl
          refine lv_iinc (v := nI (s + 1)) hx hb dX6_countOf_89 hl (k := 2) rfl (sg_inc _) (by decide) rfl (fun ls hl => ?_)
          have hl : lv_has ls 8 [(6, .int (nI (s + 1))), (5, .int (nI n)), (7, .int (nI (rw 2 0 s v))), (0, .ref m), (1, .int (nI k)), (2, .int x), (3, .int y), (4, .int (nI v))] := hl
          refine lv_goto (tgt := 36) hx hb dX6_countOf_92 rfl ?_
          exact ih36 _ _ ⟨s + 1, n, rfl, lv_sub hl [0, 1, 3, 4, 5, 6, 7] rfl, by omega, by first | (rw [sgBef_p (by first | (rw [if_pos (show k = 1 by omega)]; omega) | (rw [if_neg (show ¬ k = 1 by omega)]; omega))]; omega) | (rw [sgBef_z (by first | (rw [if_pos (show k = 1 by omega)]; omega) | (rw [if_neg (show ¬ k = 1 by omega)]; omega))]; omega)⟩ (by omega)
        · refine lv_iload hx hb dX6_countOf_78 (lv_at hl 2 rfl) ?_
          refine lv_iconst (v := nI 1) hx hb dX6_countOf_80 (by decide) ?_
          refine n_iadd hx hb dX6_countOf_81 ?_
          refine lv_goto (tgt := 87) hx hb dX6_countOf_82 rfl ?_
          refine lv_istore hx hb dX6_countOf_87 hl (by decide) rfl (fun ls hl => ?_)
          have hl : lv_has ls 8 [(5, .int (nI (n + 1))), (7, .int (nI (rw 2 0 s v))), (6, .int (nI s)), (0, .ref m), (1, .int (nI k)), (2, .int x), (3, .int y), (4, .int (nI v))] := hl
          refine lv_iinc (v := nI (s + 1)) hx hb dX6_countOf_89 hl (k := 2) rfl (sg_inc _) (by decide) rfl (fun ls hl => ?_)
          have hl : lv_has ls 8 [(6, .int (nI (s + 1))), (5, .int (nI (n + 1))), (7, .int (nI (rw 2 0 s v))), (0, .ref m), (1, .int (nI k)), (2, .int x), (3, .int y), (4, .int (nI v))] := hl
          refine lv_goto (tgt := 36) hx hb dX6_countOf_92 rfl ?_
          exact ih36 _ _ ⟨s + 1, n + 1, rfl, lv_sub hl [0, 1, 3, 4, 5, 6, 7] rfl, by omega, by first | (rw [sgBef_p (by first | (rw [if_pos (show k = 1 by omega)]; omega) | (rw [if_neg (show ¬ k = 1 by omega)]; omega))]; omega) | (rw [sgBef_z (by first | (rw [if_pos (show k = 1 by omega)]; omega) | (rw [if_neg (show ¬ k = 1 by omega)]; omega))]; omega)⟩ (by omega)
  · refine lv_iload_n hx hb dX6_countOf_8 rfl (lv_at hl 1 rfl) ?_
    refine lv_aload_n hx hb dX6_countOf_9 rfl (lv_at hl 0 rfl) ?_
    refine va_get (D := D) (ci := 6) (v := .int (nI ord)) (C := RX6) (T := TX6) (N := 12) hx hb hts hinX6 hown hK.1 hP 0 rfl rfl 0 (by decide) (hts _ fl_X6_7) (fun _ h9 => h9) rfl dX6_countOf_10 ?_
    refine ci_icmp_le (X := ((k : Nat) : Int)) (Y := ((ord : Nat) : Int)) (tgt := 20) hx hb (sg_n (by omega)) (sg_n (by omega)) dX6_countOf_13 rfl (fun h13 => ?_) (fun h13 => ?_)
    · refine lv_aload_n hx hb dX6_countOf_20 rfl (lv_at hl 0 rfl) ?_
      refine lv_iload_n hx hb dX6_countOf_21 rfl (lv_at hl 1 rfl) ?_
      refine lv_iload_n hx hb dX6_countOf_22 rfl (lv_at hl 2 rfl) ?_
      refine lv_iload_n hx hb dX6_countOf_23 rfl (lv_at hl 3 rfl) ?_
      refine lv_iload hx hb dX6_countOf_24 (lv_at hl 4 rfl) ?_
      refine sg_callRi (va_runV (As := [.int (nI k), .int x, .int y, .int (nI v)]) (rest := []) (C := RX6) ⟨hx, hb, hml, hown, hts⟩ (c_X6_raw l D cI cO m me ml mw wa wb wf li ord ns y0 y1 ge gL gW ga gb gf lim E rw k x y a b v hEv (by omega) hy hz (by omega) (by omega) (by omega)) ⟨(sg_cB 4 hts mcX6_raw ml_X6_45 in_X6 rfl rfl (by decide +kernel) ⟨Nat.le_of_ble_eq_true rfl, Nat.le_of_ble_eq_true rfl⟩), hts _ im_X6_raw, hts _ se_X6_raw⟩ (sg_pV (q0 := 0) hK hP [0, 1, 2, 3, 4, 5, 6, 7] rfl rfl rfl rfl) rfl rfl hl.1 rfl (lv_room (Nat.le_of_ble_eq_true rfl)) dX6_countOf_26 ⟨Nat.zero_le _, Nat.zero_le _⟩) ?_
      exact W.iret hx hb hr (fun tZ ht hW => ⟨_, rfl, (by unfold sgC; first | rw [if_pos (by omega)] | rw [if_neg (by omega), if_pos (by omega)] | rw [if_neg (by omega), if_neg (by omega), hn, show s = 7 by omega]), ht⟩) (fun q h => by cases h) dX6_countOf_29
    · refine lv_iconst (v := nI 0) hx hb dX6_countOf_16 (by decide) ?_
      refine lv_goto (tgt := 29) hx hb dX6_countOf_17 rfl ?_
      exact W.iret hx hb hr (fun tZ ht hW => ⟨_, rfl, (by unfold sgC; first | rw [if_pos (by omega)] | rw [if_neg (by omega), if_pos (by omega)] | rw [if_neg (by omega), if_neg (by omega), hn, show s = 7 by omega]), ht⟩) (fun q h => by cases h) dX6_countOf_29
set_option maxHeartbeats 4000000 in
set_option maxRecDepth 100000 in
theorem c_X6_totalOf (l : Launch) (D : va_G) (cI cO : ClassId) (m : Nat) (me : Nat) (ml : Nat) (mw : Nat) (wa : Nat) (wb : Nat) (wf : Nat) (li : Nat) (ord : Nat) (ns : Nat) (y0 : Int64) (y1 : Int64) (ge : Nat → Int32) (gL : Nat → Int32) (gW : Nat → Int32) (ga : Nat → Int32) (gb : Nat → Int32) (gf : Nat → Int32) (lim : Nat → Int32) (E : Nat) (rw : Nat → Nat → Nat → Nat → Nat) (k : Nat) (x : Int32) (y : Int32) (a : Nat) (b : Nat) (hEv : sgEv rw ga gb gf E) (hB : sgBd rw) (ho : 1 ≤ ord ∧ ord ≤ 3) (hk : 1 ≤ k ∧ k ≤ 3) (hy : 2 ≤ k → y = nI b) (hz : 3 ≤ k → x = nI a) (ha : a < 7) (hbb : b < 7) : Met l yX6_totalOf (.code yX6_totalOf cX6_totalOf 6 (some .int) :: sgT) ({ frames := 2, cells := 0, slots := 0, locals := 54 }) (sgPc D cI cO [.ref m, .int (nI k), .int x, .int y] [(m, .inr (6, [.int (nI ord), .ref me, .int (nI ns), .ref ml, .ref mw, .int (nI E), .ref wa, .ref wb, .ref wf, .long y0, .long y1, .ref li])), (me, .inl (cI, 4, .inl ge)), (ml, .inl (cI, 9, .inl gL)), (mw, .inl (cI, 72, .inl gW)), (wa, .inl (cI, 72, .inl ga)), (wb, .inl (cI, 72, .inl gb)), (wf, .inl (cI, 72, .inl gf)), (li, .inl (cI, 240, .inl lim))]) (vp_Si (fun r => r = nI (sgTot rw ord k a b 6))) 0 0 (fun _ => False) := by
  refine Met.ofW (cc := cX6_totalOf) (maxL := 6) (ret := (some .int)) (by decide) rfl ?_
  intro pZ eZ sZ mZ argsZ belowZ methZ cZ s₁ BZ hml hv
  obtain ⟨rfl, hP, hK⟩ := hv
  have hx := BZ.exec
  have hb := BZ.bytes
  have hr := BZ.returns
  have hts : ∀ wZ ∈ sgT, wZ.before ([.ref m, .int (nI k), .int x, .int y] : List Value).toArray sZ = true := fun wZ h => atoms_spec (ws := (.code yX6_totalOf cX6_totalOf 6 (some .int) :: sgT)) BZ.pre wZ (List.mem_cons_of_mem _ h)
  have hown : sZ.vm.findClass RX6 = some mZ.cls := findClass_of_methodNamed BZ.named
  have hlocks := BZ.notSynchronized
  have hl := lv_entry ([.ref m, .int (nI k), .int x, .int y]) (n := 6) (Nat.le_of_ble_eq_true rfl)
  rw [lg_entry_eq]
  generalize (lg_sl ([.ref m, .int (nI k), .int x, .int y]) ++ List.replicate (6 - (lg_sl ([.ref m, .int (nI k), .int x, .int y])).length) Slot.unset).toArray = ls at hl ⊢
  have hl : lv_has ls 6 [(0, .ref m), (1, .int (nI k)), (2, .int x), (3, .int y)] := hl
  refine lv_iconst (v := nI 0) hx hb dX6_totalOf_0 (by decide) ?_
  refine lv_istore hx hb dX6_totalOf_1 hl (by decide) rfl (fun ls hl => ?_)
  have hl : lv_has ls 6 [(4, .int (nI 0)), (0, .ref m), (1, .int (nI k)), (2, .int x), (3, .int y)] := hl
  refine lv_iconst (v := nI 0) hx hb dX6_totalOf_3 (by decide) ?_
  refine lv_istore hx hb dX6_totalOf_4 hl (by decide) rfl (fun ls hl => ?_)
  have hl : lv_has ls 6 [(5, .int (nI 0)), (4, .int (nI 0)), (0, .ref m), (1, .int (nI k)), (2, .int x), (3, .int y)] := hl
  refine sw_loopR (I := fun kM ls => ∃ (w : Nat) (n : Nat), kM = 6 - w ∧ lv_has ls 6 [(5, .int (nI w)), (4, .int (nI n)), (0, .ref m), (1, .int (nI k)), (2, .int x), (3, .int y)] ∧ (w ≤ 6) ∧ (n = sgTot rw ord k a b w)) ?_ _ ⟨0, 0, rfl, hl, by omega, rfl⟩
  intro kM ls hI ih6
  obtain ⟨w, n, hkM, hl, hi, hn⟩ := hI
  refine lv_iload hx hb dX6_totalOf_6 (lv_at hl 0 rfl) ?_
  refine lv_bipush (v := nI 6) hx hb dX6_totalOf_8 (by decide) ?_
  refine ci_icmp_ge (X := ((w : Nat) : Int)) (Y := ((6 : Nat) : Int)) (tgt := 33) hx hb (sg_n (by omega)) (sg_n (by omega)) dX6_totalOf_10 rfl (fun h10 => ?_) (fun h10 => ?_)
  · refine lv_iload hx hb dX6_totalOf_33 (lv_at hl 1 rfl) ?_
    exact W.iret hx hb hr (fun tZ ht hW => ⟨_, rfl, (by rw [hn]; congr 2; omega), ht⟩) (fun q h => by cases h) dX6_totalOf_35
  · refine lv_iload hx hb dX6_totalOf_13 (lv_at hl 1 rfl) ?_
    refine lv_aload_n hx hb dX6_totalOf_15 rfl (lv_at hl 2 rfl) ?_
    refine lv_iload_n hx hb dX6_totalOf_16 rfl (lv_at hl 3 rfl) ?_
    refine lv_iload_n hx hb dX6_totalOf_17 rfl (lv_at hl 4 rfl) ?_
    refine lv_iload_n hx hb dX6_totalOf_18 rfl (lv_at hl 5 rfl) ?_
    refine lv_iload hx hb dX6_totalOf_19 (lv_at hl 0 rfl) ?_
    refine sg_callRi (va_runV (As := [.int (nI k), .int x, .int y, .int (nI w)]) (rest := [.int (nI n)]) (C := RX6) ⟨hx, hb, hml, hown, hts⟩ (c_X6_countOf l D cI cO m me ml mw wa wb wf li ord ns y0 y1 ge gL gW ga gb gf lim E rw k x y a b w hEv hB (by omega) (by omega) hy hz (by omega) (by omega) (by omega)) ⟨(sg_cB 4 hts mcX6_countOf ml_X6_63 in_X6 rfl rfl (by decide +kernel) ⟨Nat.le_of_ble_eq_true rfl, Nat.le_of_ble_eq_true rfl⟩), hts _ im_X6_countOf, hts _ se_X6_countOf⟩ (sg_pV (q0 := 0) hK hP [0, 1, 2, 3, 4, 5, 6, 7] rfl rfl rfl rfl) rfl rfl hl.1 rfl (lv_room (Nat.le_of_ble_eq_true rfl)) dX6_totalOf_21 ⟨Nat.zero_le _, Nat.zero_le _⟩) ?_
    refine n_iadd hx hb dX6_totalOf_24 ?_
    refine lv_istore hx hb dX6_totalOf_25 hl (by decide) rfl (fun ls hl => ?_)
    have hl : lv_has ls 6 [(4, .int (nI (n + (sgC rw ord k a b w)))), (5, .int (nI w)), (0, .ref m), (1, .int (nI k)), (2, .int x), (3, .int y)] := hl
    refine lv_iinc (v := nI (w + 1)) hx hb dX6_totalOf_27 hl (k := 1) rfl (sg_inc _) (by decide) rfl (fun ls hl => ?_)
    have hl : lv_has ls 6 [(5, .int (nI (w + 1))), (4, .int (nI (n + (sgC rw ord k a b w)))), (0, .ref m), (1, .int (nI k)), (2, .int x), (3, .int y)] := hl
    refine lv_goto (tgt := 6) hx hb dX6_totalOf_30 rfl ?_
    exact ih6 _ _ ⟨w + 1, n + (sgC rw ord k a b w), rfl, lv_sub hl [0, 1, 2, 3, 4, 5] rfl, by omega, by rw [hn]; rfl⟩ (by omega)
set_option maxHeartbeats 4000000 in
set_option maxRecDepth 100000 in
theorem c_X6_kindsOf (l : Launch) (D : va_G) (cI cO : ClassId) (m : Nat) (me : Nat) (ml : Nat) (mw : Nat) (wa : Nat) (wb : Nat) (wf : Nat) (li : Nat) (ord : Nat) (ns : Nat) (y0 : Int64) (y1 : Int64) (ge : Nat → Int32) (gL : Nat → Int32) (gW : Nat → Int32) (ga : Nat → Int32) (gb : Nat → Int32) (gf : Nat → Int32) (lim : Nat → Int32) (E : Nat) (rw : Nat → Nat → Nat → Nat → Nat) (k : Nat) (x : Int32) (y : Int32) (a : Nat) (b : Nat) (hEv : sgEv rw ga gb gf E) (hB : sgBd rw) (ho : 1 ≤ ord ∧ ord ≤ 3) (hk : 1 ≤ k ∧ k ≤ 3) (hy : 2 ≤ k → y = nI b) (hz : 3 ≤ k → x = nI a) (ha : a < 7) (hbb : b < 7) : Met l yX6_kindsOf (.code yX6_kindsOf cX6_kindsOf 6 (some .int) :: sgT) ({ frames := 2, cells := 0, slots := 0, locals := 54 }) (sgPc D cI cO [.ref m, .int (nI k), .int x, .int y] [(m, .inr (6, [.int (nI ord), .ref me, .int (nI ns), .ref ml, .ref mw, .int (nI E), .ref wa, .ref wb, .ref wf, .long y0, .long y1, .ref li])), (me, .inl (cI, 4, .inl ge)), (ml, .inl (cI, 9, .inl gL)), (mw, .inl (cI, 72, .inl gW)), (wa, .inl (cI, 72, .inl ga)), (wb, .inl (cI, 72, .inl gb)), (wf, .inl (cI, 72, .inl gf)), (li, .inl (cI, 240, .inl lim))]) (vp_Si (fun r => r = nI (sgKin rw ord k a b 6))) 0 0 (fun _ => False) := by
  refine Met.ofW (cc := cX6_kindsOf) (maxL := 6) (ret := (some .int)) (by decide) rfl ?_
  intro pZ eZ sZ mZ argsZ belowZ methZ cZ s₁ BZ hml hv
  obtain ⟨rfl, hP, hK⟩ := hv
  have hx := BZ.exec
  have hb := BZ.bytes
  have hr := BZ.returns
  have hts : ∀ wZ ∈ sgT, wZ.before ([.ref m, .int (nI k), .int x, .int y] : List Value).toArray sZ = true := fun wZ h => atoms_spec (ws := (.code yX6_kindsOf cX6_kindsOf 6 (some .int) :: sgT)) BZ.pre wZ (List.mem_cons_of_mem _ h)
  have hown : sZ.vm.findClass RX6 = some mZ.cls := findClass_of_methodNamed BZ.named
  have hlocks := BZ.notSynchronized
  have hl := lv_entry ([.ref m, .int (nI k), .int x, .int y]) (n := 6) (Nat.le_of_ble_eq_true rfl)
  rw [lg_entry_eq]
  generalize (lg_sl ([.ref m, .int (nI k), .int x, .int y]) ++ List.replicate (6 - (lg_sl ([.ref m, .int (nI k), .int x, .int y])).length) Slot.unset).toArray = ls at hl ⊢
  have hl : lv_has ls 6 [(0, .ref m), (1, .int (nI k)), (2, .int x), (3, .int y)] := hl
  refine lv_iconst (v := nI 0) hx hb dX6_kindsOf_0 (by decide) ?_
  refine lv_istore hx hb dX6_kindsOf_1 hl (by decide) rfl (fun ls hl => ?_)
  have hl : lv_has ls 6 [(4, .int (nI 0)), (0, .ref m), (1, .int (nI k)), (2, .int x), (3, .int y)] := hl
  refine lv_iconst (v := nI 0) hx hb dX6_kindsOf_3 (by decide) ?_
  refine lv_istore hx hb dX6_kindsOf_4 hl (by decide) rfl (fun ls hl => ?_)
  have hl : lv_has ls 6 [(5, .int (nI 0)), (4, .int (nI 0)), (0, .ref m), (1, .int (nI k)), (2, .int x), (3, .int y)] := hl
  refine sw_loopR (I := fun kM ls => ∃ (w : Nat) (n : Nat), kM = 6 - w ∧ lv_has ls 6 [(5, .int (nI w)), (4, .int (nI n)), (0, .ref m), (1, .int (nI k)), (2, .int x), (3, .int y)] ∧ (w ≤ 6) ∧ (n = sgKin rw ord k a b w)) ?_ _ ⟨0, 0, rfl, hl, by omega, rfl⟩
  intro kM ls hI ih6
  obtain ⟨w, n, hkM, hl, hi, hn⟩ := hI
  refine lv_iload hx hb dX6_kindsOf_6 (lv_at hl 0 rfl) ?_
  refine lv_bipush (v := nI 6) hx hb dX6_kindsOf_8 (by decide) ?_
  refine ci_icmp_ge (X := ((w : Nat) : Int)) (Y := ((6 : Nat) : Int)) (tgt := 42) hx hb (sg_n (by omega)) (sg_n (by omega)) dX6_kindsOf_10 rfl (fun h10 => ?_) (fun h10 => ?_)
  · refine lv_iload hx hb dX6_kindsOf_42 (lv_at hl 1 rfl) ?_
    exact W.iret hx hb hr (fun tZ ht hW => ⟨_, rfl, (by rw [hn]; congr 2; omega), ht⟩) (fun q h => by cases h) dX6_kindsOf_44
  · refine lv_aload_n hx hb dX6_kindsOf_13 rfl (lv_at hl 2 rfl) ?_
    refine lv_iload_n hx hb dX6_kindsOf_14 rfl (lv_at hl 3 rfl) ?_
    refine lv_iload_n hx hb dX6_kindsOf_15 rfl (lv_at hl 4 rfl) ?_
    refine lv_iload_n hx hb dX6_kindsOf_16 rfl (lv_at hl 5 rfl) ?_
    refine lv_iload hx hb dX6_kindsOf_17 (lv_at hl 0 rfl) ?_
    refine sg_callRi (va_runV (As := [.int (nI k), .int x, .int y, .int (nI w)]) (rest := []) (C := RX6) ⟨hx, hb, hml, hown, hts⟩ (c_X6_countOf l D cI cO m me ml mw wa wb wf li ord ns y0 y1 ge gL gW ga gb gf lim E rw k x y a b w hEv hB (by omega) (by omega) hy hz (by omega) (by omega) (by omega)) ⟨(sg_cB 4 hts mcX6_countOf ml_X6_63 in_X6 rfl rfl (by decide +kernel) ⟨Nat.le_of_ble_eq_true rfl, Nat.le_of_ble_eq_true rfl⟩), hts _ im_X6_countOf, hts _ se_X6_countOf⟩ (sg_pV (q0 := 0) hK hP [0, 1, 2, 3, 4, 5, 6, 7] rfl rfl rfl rfl) rfl rfl hl.1 rfl (lv_room (Nat.le_of_ble_eq_true rfl)) dX6_kindsOf_19 ⟨Nat.zero_le _, Nat.zero_le _⟩) ?_
    have hv := sgC_le hB ord k a b w
    refine ci_if_le (X := ((sgC rw ord k a b w : Nat) : Int)) (tgt := 32) hx hb (sg_n (by omega)) dX6_kindsOf_22 rfl (fun h22 => ?_) (fun h22 => ?_)
    · refine lv_iload hx hb dX6_kindsOf_32 (lv_at hl 1 rfl) ?_
      refine lv_istore hx hb dX6_kindsOf_34 hl (by decide) rfl (fun ls hl => ?_)
      have hl : lv_has ls 6 [(4, .int (nI n)), (5, .int (nI w)), (0, .ref m), (1, .int (nI k)), (2, .int x), (3, .int y)] := hl
      refine lv_iinc (v := nI (w + 1)) hx hb dX6_kindsOf_36 hl (k := 1) rfl (sg_inc _) (by decide) rfl (fun ls hl => ?_)
      have hl : lv_has ls 6 [(5, .int (nI (w + 1))), (4, .int (nI n)), (0, .ref m), (1, .int (nI k)), (2, .int x), (3, .int y)] := hl
      refine lv_goto (tgt := 6) hx hb dX6_kindsOf_39 rfl ?_
      exact ih6 _ _ ⟨w + 1, n, rfl, lv_sub hl [0, 1, 2, 3, 4, 5] rfl, by omega, by first | (rw [sgKin_p (by omega)]; omega) | (rw [sgKin_z (by omega)]; omega)⟩ (by omega)
    · refine lv_iload hx hb dX6_kindsOf_25 (lv_at hl 1 rfl) ?_
      refine lv_iconst (v := nI 1) hx hb dX6_kindsOf_27 (by decide) ?_
      refine n_iadd hx hb dX6_kindsOf_28 ?_
      refine lv_goto (tgt := 34) hx hb dX6_kindsOf_29 rfl ?_
      refine lv_istore hx hb dX6_kindsOf_34 hl (by decide) rfl (fun ls hl => ?_)
      have hl : lv_has ls 6 [(4, .int (nI (n + 1))), (5, .int (nI w)), (0, .ref m), (1, .int (nI k)), (2, .int x), (3, .int y)] := hl
      refine lv_iinc (v := nI (w + 1)) hx hb dX6_kindsOf_36 hl (k := 1) rfl (sg_inc _) (by decide) rfl (fun ls hl => ?_)
      have hl : lv_has ls 6 [(5, .int (nI (w + 1))), (4, .int (nI (n + 1))), (0, .ref m), (1, .int (nI k)), (2, .int x), (3, .int y)] := hl
      refine lv_goto (tgt := 6) hx hb dX6_kindsOf_39 rfl ?_
      exact ih6 _ _ ⟨w + 1, n + 1, rfl, lv_sub hl [0, 1, 2, 3, 4, 5] rfl, by omega, by first | (rw [sgKin_p (by omega)]; omega) | (rw [sgKin_z (by omega)]; omega)⟩ (by omega)

/-! rows that make cells; contracts of constructors, and their calls -/
theorem sgOut_arr (c : ClassId) (N h0 : Nat) (i : Nat) : sgOut c N h0 i = arrV c N (fun j => va_rf (if j < i then some (h0 + 1 + j) else none)) := by
  induction i with
  | zero =>
    show ({ cls := c, slots := Array.replicate N .null, vm := .none } : Cell) = _
    rw [arrV_new]
    refine congrArg (arrV c N) (funext fun j => ?_)
    simp [va_rf]
  | succ i ih =>
    show (sgOut c N h0 i).setSlot i (.ref (h0 + 1 + i)) = _
    rw [ih, arrV_store]
    refine congrArg (arrV c N) (funext fun j => ?_)
    by_cases e : j = i
    · subst e
      simp [updV, va_rf]
    · by_cases h : j < i
      · simp [updV, e, h, Nat.lt_succ_of_lt h]
      · simp [updV, e, h, show ¬ j < i + 1 by omega]
theorem arrV_congr {c : ClassId} {n : Nat} {f g : Nat → Value} (h : ∀ j, j < n → f j = g j) : arrV c n f = arrV c n g := by
  unfold arrV
  congr 1
  congr 1
  funext j
  exact h j.val j.isLt
theorem rw9_D {A : Nat → Prop} {q : Nat} {cI : ClassId} {fR : Nat → Nat → Int32} (hA : ∀ x, q ≤ x → A x) : va_D A (rw9 (fun j => q + 1 + j) cI fR) := by
  have key : ∀ (i : Nat) (p : Nat × va_E), (rw9 (fun j => q + 1 + j) cI fR)[i]? = some p → p.1 = q + 1 + i := by
    intro i p hi
    have hl : i < 9 := (List.getElem?_eq_some_iff.mp hi).1
    have h := rw9_at (ra := fun j => q + 1 + j) (cI := cI) (fR := fR) (X := []) hl
    rw [List.append_nil] at h
    rw [h] at hi
    cases hi
    rfl
  refine ⟨fun i j p r hi hj hpr => ?_, fun k p hk => ?_⟩
  · rw [key i p hi, key j r hj] at hpr
    omega
  · rw [key k p hk]
    exact hA _ (by omega)
def sgNc (D : va_G) (cI cO : ClassId) (av : List Value) (wc : va_W) (sz : Nat) : Array Value → State → Prop := va_Pc av (fun U => U.heap.size = sz ∧ va_P D vwCl wc U.heap ∧ sgK D cI cO U ∧ va_D (fun _ => True) wc)
theorem sgNc_blind {D : va_G} {cI cO : ClassId} {av : List Value} {wc : va_W} {sz : Nat} : FrameBlind (sgNc D cI cO av wc sz) := fun _ _ _ _ q => ⟨q.1, q.2.1, q.2.2.1, q.2.2.2.1.calling, q.2.2.2.2⟩
section SGN
variable {p : Program} {l : Launch} {e : Env} {R : Room} {s : State} {m : MethodId} {args : Array Value} {below : List Frame} {meth : Method} {c : Code} {H H0 : Heap} {locs : List Loc} {cells slots mc ms : Nat} {Q : State → Prop} {cc : ByteArray} {pc : Nat} {ls : Array Slot} {rest st0 : List Value} {D : va_G} {cI cO : ClassId} {ws wc : va_W} {A : Nat → Prop} {a : Array Value}
theorem sg_nS {As : List Value} (hK : sgK D cI cO s) (hP : va_P D vwCl ws H) (hD : va_D A ws) (is : List Nat) (hn : va_nd is = true) (hC : is.map (fun i => ws[i]?) = wc.map some) : PreS s H (sgNc D cI cO As wc H.size) As :=
  ⟨sgNc_blind, fun U hU hW => ⟨rfl, by rw [hU], by rw [hU]; exact fun k q hq => by obtain ⟨i, -, h2⟩ := sg_at hC k q hq; exact hP i q h2, hK.warm hW, (hD.sub is hn hC).weaken (fun _ _ _ _ => trivial)⟩⟩
/-- an int array made: of the one class of int arrays -/
theorem sg_newa (hexec : p.tables.exec = Jvm.exec) (hb : c.code = cc) (harr : (Cond.arrayClass .int).before args s = true) (hK : sgK D cI cO s) (hP : va_P D vwCl ws H) (hD : va_D A ws) (hS : va_S A H0 H locs) (hA : ∀ q, H0.size ≤ q → A q) {n : Nat} (hn : n ≤ 1000) (hcells : cells + 1 ≤ R.cells) (hslots : slots + n ≤ R.slots) (hdg : decode cc pc = .ok (.newarray .int, 2))
    (kk : ∀ (q : Nat) (H1 : Heap), va_P D vwCl (ws ++ [(q, .inl (cI, n, .inl (fun _ => 0)))]) H1 → va_D A (ws ++ [(q, .inl (cI, n, .inl (fun _ => 0)))]) → va_S A H0 H1 locs → W p l e R s m args below meth c H1 locs (cells + 1) (slots + n) Q (F0 m (pc + 2) ls (.ref q :: rest))) : W p l e R s m args below meth c H locs cells slots Q (F0 m pc ls (.int (nI n) :: rest)) := by
  refine va_newa (atype := .int) (ty := .int) (N' := n) (a0 := (n, .inl (fun _ => 0))) hexec hb harr rfl hK.1 hP hD hS hA (fun cA => rfl) (nI_pos (by omega)) (nI_clamp (by omega)) (by show n * 4 ≤ 536870912; omega) hcells hslots hdg (fun q cA H1 hK1 hP1 hD1 hS1 => ?_)
  have h1 : s.vm.findClass "[I" = some cI := (hK.1.2 0 (cI, .int) rfl).2
  have h2 : s.vm.findClass "[I" = some cA := (hK1.2 2 (cA, .int) rfl).2
  cases Option.some.inj (h1.symm.trans h2)
  exact kk q H1 hP1 hD1 hS1
/-- nine rows of eight places made at once -/
theorem sg_multi (hexec : p.tables.exec = Jvm.exec) (hb : c.code = cc) {own : String} {index : Nat} (hown : s.vm.findClass own = some m.cls) (hclink : (Cond.classLink own index "[[I").before args s = true) (hK : sgK D cI cO s) (hP : va_P D vwCl ws H) (hD : va_D A ws) (hS : va_S A H0 H locs) (hA : ∀ q, H0.size ≤ q → A q) (hcells : cells + 10 ≤ R.cells) (hslots : slots + 81 ≤ R.slots) (hdg : decode cc pc = .ok (.multianewarray index 2, 4))
    (kk : ∀ (q : Nat) (H1 : Heap) (locs1 : List Loc), va_P D vwCl (rw9 (fun j => q + 1 + j) cI (fun _ _ => 0) ++ (ws ++ [(q, .inl (cO, 9, .inr (.inr (.inr (.inr (fun j => some (q + 1 + j)))))))])) H1 → va_D A (rw9 (fun j => q + 1 + j) cI (fun _ _ => 0) ++ (ws ++ [(q, .inl (cO, 9, .inr (.inr (.inr (.inr (fun j => some (q + 1 + j)))))))])) → va_S A H0 H1 locs1 → W p l e R s m args below meth c H1 locs1 (cells + 10) (slots + 81) Q (F0 m (pc + 4) ls (.ref q :: rest))) : W p l e R s m args below meth c H locs cells slots Q (F0 m pc ls (.int (nI 8) :: .int (nI 9) :: rest)) := by
  intro T hT X
  have hO : s.vm.findClass "[[I" = some cO := (hK.1.2 1 (cO, .array .int) rfl).2
  have hkI : ∃ (kI : Class) (cc : ClassId), s.vm.classes[cI]? = some kI ∧ kI.kind = .array cc .int := by
    obtain ⟨-, k, hk, comp, hkind⟩ := (hK.1.2 0 (cI, .int) rfl).1 0 (fun _ => .int 0)
    exact ⟨k, comp, hk, hkind⟩
  obtain ⟨vm₁, X', step⟩ := sg_multiS X hexec hown hclink hO hK.2.1 hkI (g := F0 m pc ls (.int (nI 8) :: .int (nI 9) :: rest)) rfl (by rw [hb]; exact hdg) rfl (by decide) (by decide) (by decide) (by decide) (by exact hcells) (by exact hslots)
  have e9 : (nI 9).toNatClampNeg = 9 := by decide
  have e8 : (nI 8).toNatClampNeg = 8 := by decide
  rw [e9, e8] at X' step
  have hTh : (T.setVm vm₁).heap = H := hT
  obtain ⟨f1, f2, -, -⟩ := sgMk_f (T.setVm vm₁) cO cI 9 8 9
  have f3 := fun (x : Nat) (hx : x < (T.setVm vm₁).heap.size) => sgMk_old (T.setVm vm₁) cO cI 9 8 hx 9
  have f4 := fun (j : Nat) (hj : j < 9) => sgMk_in (T.setVm vm₁) cO cI 9 8 9 j hj
  rw [hTh] at f1 f2 f3 f4
  have hTs : T.heap.size = H.size := by rw [hT]
  rw [hTs] at X' step
  have hin : ∀ j, j < 9 → (sgMk (T.setVm vm₁) cO cI 9 8 9).heap[H.size + 1 + j]? = some (vp_cell cI (8, .inl (fun _ => 0))) := by
    intro j hj
    rw [f4 j hj, vp_cell_i, ← arrV_new]
    rfl
  have hout : (sgMk (T.setVm vm₁) cO cI 9 8 9).heap[H.size]? = some (vp_cell cO (9, .inr (.inr (.inr (.inr (fun j => some (H.size + 1 + j))))))) := by
    rw [f2, vp_cell_q, sgOut_arr]
    refine congrArg some (arrV_congr fun j hj => ?_)
    rw [if_pos hj]
  have hP0 : va_P D vwCl ws (sgMk (T.setVm vm₁) cO cI 9 8 9).heap := hP.kept fun k q hq => f3 q.1 (hP k q hq).lt
  have hPr : va_P D vwCl (rw9 (fun j => H.size + 1 + j) cI (fun _ _ => 0)) (sgMk (T.setVm vm₁) cO cI 9 8 9).heap := by
    intro k q hk
    have hl : k < 9 := (List.getElem?_eq_some_iff.mp hk).1
    have h := rw9_at (ra := fun j => H.size + 1 + j) (cI := cI) (fR := fun _ _ => 0) (X := []) hl
    rw [List.append_nil] at h
    rw [h] at hk
    cases hk
    exact hin k hl
  have hP1 : va_P D vwCl [(H.size, .inl (cO, 9, .inr (.inr (.inr (.inr (fun j => some (H.size + 1 + j)))))))] (sgMk (T.setVm vm₁) cO cI 9 8 9).heap := by
    intro k q hk
    have hl : k < 1 := (List.getElem?_eq_some_iff.mp hk).1
    have h0 : k = 0 := by omega
    subst h0
    cases hk
    exact hout
  have hA1 : ∀ x, H.size ≤ x → A x := fun x hx => hA x (Nat.le_trans hS.1 hx)
  have hD1 : va_D A (ws ++ [(H.size, .inl (cO, 9, .inr (.inr (.inr (.inr (fun j => some (H.size + 1 + j)))))))]) := hD.push hP rfl (hA1 _ (Nat.le_refl _))
  have hD2 : va_D A (rw9 (fun j => H.size + 1 + j) cI (fun _ _ => 0) ++ (ws ++ [(H.size, .inl (cO, 9, .inr (.inr (.inr (.inr (fun j => some (H.size + 1 + j)))))))])) := by
    refine (rw9_D (q := H.size) hA1).app hD1 (fun i j x y hx hy hxy => ?_)
    have hl : i < 9 := (List.getElem?_eq_some_iff.mp hx).1
    have h := rw9_at (ra := fun j => H.size + 1 + j) (cI := cI) (fR := fun _ _ => 0) (X := []) hl
    rw [List.append_nil] at h
    rw [h] at hx
    cases hx
    have hy1 : y.1 ≤ H.size := by
      rcases List.mem_append.mp (List.mem_of_getElem? hy) with h | h
      · obtain ⟨t, ht⟩ := List.getElem?_of_mem h
        exact Nat.le_of_lt (hP t y ht).lt
      · rw [List.mem_singleton] at h
        subst h
        exact Nat.le_refl _
    have hxy : H.size + 1 + i = y.1 := hxy
    omega
  have hS1 : va_S A H0 (sgMk (T.setVm vm₁) cO cI 9 8 9).heap (locs ++ (List.range 9).map fun j => (⟨H.size, j⟩ : Loc)) := by
    refine ⟨Nat.le_trans hS.1 (by rw [f1]; omega), fun q h1 h2 => ?_, fun x hx => ?_⟩
    · rw [f3 q (Nat.lt_of_lt_of_le h1 hS.1)]
      exact hS.2.1 q h1 h2
    · rcases List.mem_append.mp hx with h | h
      · exact hS.2.2 x h
      · obtain ⟨j, -, rfl⟩ := List.mem_map.mp h
        exact hA1 _ (Nat.le_refl _)
  obtain ⟨t2, a1, b1⟩ := kk H.size _ _ (hPr.app (hP0.app hP1)) hD2 hS1 (sgMk (T.setVm vm₁) cO cI 9 8 9) rfl X'
  exact ⟨t2, step t2 a1, b1⟩
/-- a constructor's call: its cells come behind the caller's others -/
theorem sg_callN {S : Type} {post : S → Prop} {w1 : S → va_W} {wr : va_W} (hr : va_Run p l e R s m args below meth c H locs cells slots mc ms (F0 m pc ls st0) rest (va_Qv post (fun u t => va_P D vwCl (w1 u) t.heap ∧ va_D (va_A wc H.size) (w1 u)) (va_A wc H.size) a) (va_A wc H.size)) (hP : va_P D vwCl ws H) (hD : va_D A ws) (hS : va_S A H0 H locs) (hA : ∀ q, H0.size ≤ q → A q) (isC isR : List Nat) (hC : isC.map (fun i => ws[i]?) = wc.map some) (hR : isR.map (fun i => ws[i]?) = wr.map some) (hn : va_nd isR = true) (hdis : ∀ i ∈ isR, i ∉ isC)
    (kk : ∀ (u : S) (H1 : Heap) (locs1 : List Loc), post u → va_P D vwCl (wr ++ w1 u) H1 → va_D A (wr ++ w1 u) → va_S A H0 H1 locs1 → W p l e R s m args below meth c H1 locs1 (cells + mc) (slots + ms) Q (F0 m (pc + 3) ls rest)) : W p l e R s m args below meth c H locs cells slots Q (F0 m pc ls st0) := by
  have hFc := va_free (wc := wc) hD hS hA isC hC
  refine va_callv hr hS (fun q _ h => hFc q h) hFc (fun u t H1 locs1 ht _ hp hB _ hk hS1 => ?_)
  obtain ⟨hP1, hD1⟩ := hB
  rw [ht] at hP1
  obtain ⟨hP2, hD2⟩ := va_join (wr := wr) hP hD isC isR hC hR hn hdis hk hFc hP1 hD1
  exact kk u H1 locs1 hp hP2 hD2 hS1
end SGN

/-! contracts of methods that read, of methods that write in place, and their calls -/
/-- the cells' places of a world -/
def xA (wc : va_W) : Nat → Prop := fun q => ∃ (k : Nat) (e : va_E), wc[k]? = some (q, e)
/-- what the tables say: classes, int arrays, arrays of them, calls among nest mates -/
def sgK (D : va_G) (cI cO : ClassId) (U : State) : Prop := va_K D vwCl [(cI, .int), (cO, .array .int)] U ∧ (∃ kO : Class, U.vm.classes[cO]? = some kO ∧ kO.kind = .array cI (.array .int)) ∧ (va_Nw (.methodLinkNest RX1 25 yX5_contextOf RX5) U ∧ va_Nw (.methodLinkNest RX1 36 yX5_rowsOf RX5) U ∧ va_Nw (.methodLinkNest RX0 26 yX5_contextOf RX5) U) ∧ va_Nw (.methodLinkNest RX5 9 yX4_init RX5) U ∧ va_Nw (.methodLinkNest RX5 18 yX1_init RX5) U ∧ va_Nw (.methodLinkNest RX5 29 yX0_init RX5) U
theorem sgK_kind {cI cO : ClassId} {u U : State} (hvm : u.vm.Alike U.vm) (h : ∃ kO : Class, u.vm.classes[cO]? = some kO ∧ kO.kind = .array cI (.array .int)) : ∃ kO : Class, U.vm.classes[cO]? = some kO ∧ kO.kind = .array cI (.array .int) := by
  obtain ⟨k, h1, h2⟩ := h
  obtain ⟨k', hk', he⟩ := hvm.2.2 _ _ h1
  exact ⟨k', hk', by rw [he]; exact h2⟩
theorem sgK.warm {D : va_G} {cI cO : ClassId} {s U : State} (hW : s.WarmedH U.vm) (h : sgK D cI cO s) : sgK D cI cO U := ⟨va_K.moved hW.alike h.1, sgK_kind hW.alike h.2.1, ⟨va_Nw.warmM hW h.2.2.1.1, va_Nw.warmM hW h.2.2.1.2.1, va_Nw.warmM hW h.2.2.1.2.2⟩, va_Nw.warmM hW h.2.2.2.1, va_Nw.warmM hW h.2.2.2.2.1, va_Nw.warmM hW h.2.2.2.2.2⟩
theorem sgK.calling {D : va_G} {cI cO : ClassId} {U : State} {g : JFrame} {mk : MethodId} {a : Array Value} (h : sgK D cI cO U) : sgK D cI cO (U.calling g mk a) := ⟨va_K.moved (u := U) (U := U.calling g mk a) (Vm.Alike.refl U.vm) h.1, h.2.1, ⟨va_Nw.same rfl (u := U) rfl h.2.2.1.1, va_Nw.same rfl (u := U) rfl h.2.2.1.2.1, va_Nw.same rfl (u := U) rfl h.2.2.1.2.2⟩, va_Nw.same rfl (u := U) rfl h.2.2.2.1, va_Nw.same rfl (u := U) rfl h.2.2.2.2.1, va_Nw.same rfl (u := U) rfl h.2.2.2.2.2⟩
def sgPc (D : va_G) (cI cO : ClassId) (av : List Value) (wc : va_W) : Array Value → State → Prop := va_Pc av (fun U => va_P D vwCl wc U.heap ∧ sgK D cI cO U)
def sgWc (D : va_G) (cI cO : ClassId) (av : List Value) (wc : va_W) : Array Value → State → Prop := va_Pc av (fun U => va_P D vwCl wc U.heap ∧ sgK D cI cO U ∧ va_D (fun _ => True) wc)
theorem sgPc_blind {D : va_G} {cI cO : ClassId} {av : List Value} {wc : va_W} : FrameBlind (sgPc D cI cO av wc) := fun _ _ _ _ q => ⟨q.1, q.2.1, q.2.2.calling⟩
theorem sgWc_blind {D : va_G} {cI cO : ClassId} {av : List Value} {wc : va_W} : FrameBlind (sgWc D cI cO av wc) := fun _ _ _ _ q => ⟨q.1, q.2.1, q.2.2.1.calling, q.2.2.2⟩
/-- words of a caller, words of a callee -/
theorem sg_good {c0 c1 : Cond} (h : c1 ∈ sgT) : GoodIn (c0 :: sgT) (c1 :: sgT) := fun w hw => by
  have hw' : w ∈ sgT := by
    rcases List.mem_cons.mp hw with rfl | h'
    · exact h
    · exact h'
  exact ⟨List.mem_cons_of_mem _ hw', good_of_word (List.mem_filter.mp hw').2⟩
theorem sg_pay {c1 : Cond} {args : Array Value} {s : State} (hts : ∀ w ∈ sgT, w.before args s = true) (h : c1 ∈ sgT) : ∀ w ∈ c1 :: sgT, ∀ (a' : Array Value) (U : State), s.WarmedH U.vm → w.before a' U = true := by
  intro w hw a' U hW
  have hw' : w ∈ sgT := by
    rcases List.mem_cons.mp hw with rfl | h'
    · exact h
    · exact h'
  exact word_at hW (good_of_word (List.mem_filter.mp hw').2) (hts w hw')
theorem sg_cB {R : Room} {s : State} {args : Array Value} {own : String} {index maxL mc ms : Nat} {y : MethodName} {bytes : ByteArray} {ret : Option FieldType} {rm : Room} (n : Nat) (hts : ∀ w ∈ sgT, w.before args s = true) (hc : Cond.code y bytes maxL ret ∈ sgT) (hl : Cond.methodLink own index y ∈ sgT) (hini : Cond.initialized y.cls ∈ sgT) (hrc : rm.cells = mc) (hrs : rm.slots = ms)
    (hd : y.cls ≠ "java/lang/invoke/MethodHandle" ∧ y.cls ≠ "java/lang/invoke/VarHandle" ∧ (parseMethodDescriptor y.desc).map (fun d => d.parameters.length) = some n) (hR : rm.frames + 1 ≤ R.frames ∧ 8 + (maxL + 11) + rm.locals ≤ R.locals) : CallB R s args own index y bytes maxL ret (Cond.code y bytes maxL ret :: sgT) rm mc ms n := by
  refine ⟨hrc, hrs, hR.1, hR.2, sg_pay hts hc, List.mem_cons_self, hts _ hc, hts _ hini, ⟨hd.1, hd.2.1⟩, fun sig h => ?_, hts _ hl⟩
  have h2 := hd.2.2
  rw [h] at h2
  exact (Option.some.inj h2).symm
theorem sg_cN {R : Room} {s : State} {args : Array Value} {own host : String} {index maxL mc ms : Nat} {y : MethodName} {bytes : ByteArray} {ret : Option FieldType} {rm : Room} (n : Nat) (hts : ∀ w ∈ sgT, w.before args s = true) (hc : Cond.code y bytes maxL ret ∈ sgT) (hl : va_Nw (.methodLinkNest own index y host) s) (hini : Cond.initialized y.cls ∈ sgT) (hrc : rm.cells = mc) (hrs : rm.slots = ms)
    (hd : y.cls ≠ "java/lang/invoke/MethodHandle" ∧ y.cls ≠ "java/lang/invoke/VarHandle" ∧ (parseMethodDescriptor y.desc).map (fun d => d.parameters.length) = some n) (hR : rm.frames + 1 ≤ R.frames ∧ 8 + (maxL + 11) + rm.locals ≤ R.locals) : va_CN R s args own index y host bytes maxL ret (Cond.code y bytes maxL ret :: sgT) rm mc ms n := by
  refine ⟨⟨hrc, hrs, hR.1, hR.2, sg_pay hts hc, List.mem_cons_self⟩, hts _ hc, hts _ hini, ⟨hd.1, hd.2.1⟩, fun sig h => ?_, va_Nw.use rfl hl⟩
  have h2 := hd.2.2
  rw [h] at h2
  exact (Option.some.inj h2).symm
/-- the contents of some places of a world set anew -/
def sgPut : va_W → List Nat → va_W → va_W
  | ws, i :: is, x :: xs => sgPut (ws.set i x) is xs
  | ws, _, _ => ws
theorem sgPut_get : ∀ (is : List Nat) (xs : va_W) (ws : va_W) (k : Nat) (q : Nat × va_E), is.length = xs.length → (sgPut ws is xs)[k]? = some q → (∃ t : Nat, is[t]? = some k ∧ xs[t]? = some q) ∨ (k ∉ is ∧ ws[k]? = some q)
  | [], [], ws, k, q, _, h => Or.inr ⟨List.not_mem_nil, h⟩
  | [], _ :: _, ws, k, q, hl, h => by simp at hl
  | _ :: _, [], ws, k, q, hl, h => by simp at hl
  | i :: is, x :: xs, ws, k, q, hl, h => by
    have hl' : is.length = xs.length := by simpa using hl
    rcases sgPut_get is xs (ws.set i x) k q hl' h with ⟨t, h1, h2⟩ | ⟨h1, h2⟩
    · exact Or.inl ⟨t + 1, by simpa using h1, by simpa using h2⟩
    · by_cases hki : i = k
      · subst hki
        left
        refine ⟨0, rfl, ?_⟩
        have hlt : i < (ws.set i x).length := (List.getElem?_eq_some_iff.mp h2).1
        rw [List.length_set] at hlt
        rw [List.getElem?_set_self hlt] at h2
        exact h2
      · right
        rw [List.getElem?_set_ne hki] at h2
        exact ⟨by simp only [List.mem_cons, not_or]; exact ⟨fun z => hki z.symm, h1⟩, h2⟩
theorem sgD_adr {A : Nat → Prop} {ws ws' : va_W} (h : ws'.map Prod.fst = ws.map Prod.fst) (hD : va_D A ws) : va_D A ws' := by
  have key : ∀ (k : Nat) (q : Nat × va_E), ws'[k]? = some q → ∃ q0, ws[k]? = some q0 ∧ q0.1 = q.1 := by
    intro k q hk
    have h1 : (ws'.map Prod.fst)[k]? = some q.1 := by rw [List.getElem?_map, hk]; rfl
    rw [h, List.getElem?_map] at h1
    cases hw : ws[k]? with
    | none => rw [hw] at h1; cases h1
    | some q0 => rw [hw] at h1; exact ⟨q0, rfl, Option.some.inj h1⟩
  refine ⟨fun i j x y hi hj hxy => ?_, fun k q hk => ?_⟩
  · obtain ⟨x0, h1, h2⟩ := key i x hi
    obtain ⟨y0, h3, h4⟩ := key j y hj
    exact hD.1 i j x0 y0 h1 h3 (h2.trans (hxy.trans h4.symm))
  · obtain ⟨q0, h1, h2⟩ := key k q hk
    rw [← h2]
    exact hD.2 k q0 h1
theorem sg_at {is : List Nat} {ws w : va_W} (hs : is.map (fun i => ws[i]?) = w.map some) (k : Nat) (q : Nat × va_E) (hq : w[k]? = some q) : ∃ i, is[k]? = some i ∧ ws[i]? = some q := by
  have h1 : (is.map (fun i => ws[i]?))[k]? = some (some q) := by rw [hs, List.getElem?_map, hq]; rfl
  rw [List.getElem?_map] at h1
  cases hi : is[k]? with
  | none => rw [hi] at h1; cases h1
  | some i => rw [hi] at h1; exact ⟨i, rfl, Option.some.inj h1⟩
theorem sg_xA {A : Nat → Prop} {is : List Nat} {ws wc : va_W} (hD : va_D A ws) (hs : is.map (fun i => ws[i]?) = wc.map some) (q : Nat) (h : xA wc q) : A q := by
  obtain ⟨k, e, h⟩ := h
  obtain ⟨i, -, h2⟩ := sg_at hs k (q, e) h
  exact hD.2 i (q, e) h2
/-- behind a call that wrote some cells of a world in place -/
theorem sg_put {D : va_G} {cl : List vw_C} {A : Nat → Prop} {ws wc w1 : va_W} {H H1 : Heap} (is : List Nat) (hP : va_P D cl ws H) (hD : va_D A ws) (hC : is.map (fun i => ws[i]?) = wc.map some) (hl : is.length = w1.length) (hP1 : va_P D cl w1 H1)
    (hk : ∀ q : Nat, q < H.size → ¬ xA wc q → H1[q]? = H[q]?) : va_P D cl (sgPut ws is w1) H1 := by
  intro k q hq
  rcases sgPut_get is w1 ws k q hl hq with ⟨t, -, h2⟩ | ⟨h1, h2⟩
  · exact hP1 t q h2
  · refine (hP k q h2).kept (hk q.1 (hP k q h2).lt ?_)
    rintro ⟨t, e, ht⟩
    obtain ⟨i, h3, h4⟩ := sg_at hC t (q.1, e) ht
    have := hD.1 k i q (q.1, e) h2 h4 rfl
    subst this
    exact h1 (List.mem_of_getElem? h3)
/-- an array's contents matter where it has places -/
theorem sg_arr {D : va_G} {cl : List vw_C} {ws : va_W} {H : Heap} (k : Nat) {a n : Nat} {cA : ClassId} {f g : Nat → Int32} (hP : va_P D cl ws H) (hk : ws[k]? = some (a, .inl (cA, n, .inl f))) (hfg : ∀ j, j < n → f j = g j) : va_P D cl (ws.set k (a, .inl (cA, n, .inl g))) H := by
  have hl := (List.getElem?_eq_some_iff.mp hk).1
  intro i q hi
  by_cases h : i = k
  · subst h
    rw [List.getElem?_set_self hl] at hi
    cases hi
    have h1 : H[a]? = some (vp_cell cA (n, .inl f)) := hP i _ hk
    show H[a]? = some (vp_cell cA (n, .inl g))
    rw [h1, vp_cell_i, vp_cell_i]
    congr 1
    unfold arrV
    congr 1
    congr 1
    funext j
    show Value.int (f j.val) = Value.int (g j.val)
    rw [hfg j.val j.isLt]
  · rw [List.getElem?_set_ne (Ne.symm h)] at hi
    exact hP i q hi
section SGC
variable {p : Program} {l : Launch} {e : Env} {R : Room} {s : State} {m : MethodId} {args : Array Value} {below : List Frame} {meth : Method} {c : Code} {H H0 : Heap} {locs : List Loc} {cells slots : Nat} {Q : State → Prop} {pc : Nat} {ls : Array Slot} {rest st0 : List Value} {D : va_G} {cI cO : ClassId} {ws wc : va_W} {A : Nat → Prop} {a : Array Value}
theorem sg_pV {b q0 ci : Nat} {q : vw_C} {C : String} {fs : List Value} {As : List Value} (hK : sgK D cI cO s) (hP : va_P D vwCl ws H) (is : List Nat) (hC : is.filterMap (fun i => ws[i]?) = wc) (hc : vwCl[ci]? = some q) (he : ws[q0]? = some (b, .inr (ci, fs))) (hq : q.1 = C) : PreV s H C b (sgPc D cI cO (.ref b :: As) wc) As :=
  ⟨sgPc_blind, by rw [← hq]; exact va_recv hK.1 hP hc he, fun U hU hW => ⟨rfl, by rw [hU]; exact hP.sub is hC, hK.warm hW⟩⟩
theorem sg_pS {As : List Value} (hK : sgK D cI cO s) (hP : va_P D vwCl ws H) (is : List Nat) (hC : is.filterMap (fun i => ws[i]?) = wc) : PreS s H (sgPc D cI cO As wc) As :=
  ⟨sgPc_blind, fun U hU hW => ⟨rfl, by rw [hU]; exact hP.sub is hC, hK.warm hW⟩⟩
theorem sg_wV {b q0 ci : Nat} {q : vw_C} {C : String} {fs : List Value} {As : List Value} (hK : sgK D cI cO s) (hP : va_P D vwCl ws H) (hD : va_D A ws) (is : List Nat) (hn : va_nd is = true) (hC : is.map (fun i => ws[i]?) = wc.map some) (hc : vwCl[ci]? = some q) (he : ws[q0]? = some (b, .inr (ci, fs))) (hq : q.1 = C) : PreV s H C b (sgWc D cI cO (.ref b :: As) wc) As :=
  ⟨sgWc_blind, by rw [← hq]; exact va_recv hK.1 hP hc he, fun U hU hW => ⟨rfl, by rw [hU]; exact fun k q hq => by obtain ⟨i, -, h2⟩ := sg_at hC k q hq; exact hP i q h2, hK.warm hW, (hD.sub is hn hC).weaken (fun _ _ _ _ => trivial)⟩⟩
theorem sg_wS {As : List Value} (hK : sgK D cI cO s) (hP : va_P D vwCl ws H) (hD : va_D A ws) (is : List Nat) (hn : va_nd is = true) (hC : is.map (fun i => ws[i]?) = wc.map some) : PreS s H (sgWc D cI cO As wc) As :=
  ⟨sgWc_blind, fun U hU hW => ⟨rfl, by rw [hU]; exact fun k q hq => by obtain ⟨i, -, h2⟩ := sg_at hC k q hq; exact hP i q h2, hK.warm hW, (hD.sub is hn hC).weaken (fun _ _ _ _ => trivial)⟩⟩
theorem sg_callRi {v : Int32} (hr : va_Run p l e R s m args below meth c H locs cells slots 0 0 (F0 m pc ls st0) rest (vp_Si (fun r => r = v) a) (fun _ => False)) (kk : W p l e R s m args below meth c H locs cells slots Q (F0 m (pc + 3) ls (.int v :: rest))) : W p l e R s m args below meth c H locs cells slots Q (F0 m pc ls st0) :=
  vp_callSi hr.run (fun r h => by subst h; exact kk)
theorem sg_callRp {post : Int32 → Prop} (hr : va_Run p l e R s m args below meth c H locs cells slots 0 0 (F0 m pc ls st0) rest (vp_Si post a) (fun _ => False)) (kk : ∀ r : Int32, post r → W p l e R s m args below meth c H locs cells slots Q (F0 m (pc + 3) ls (.int r :: rest))) : W p l e R s m args below meth c H locs cells slots Q (F0 m pc ls st0) :=
  vp_callSi hr.run kk
theorem sg_callRl {v : Int64} (hr : va_Run p l e R s m args below meth c H locs cells slots 0 0 (F0 m pc ls st0) rest (vp_Sl (fun r => r = v) a) (fun _ => False)) (kk : W p l e R s m args below meth c H locs cells slots Q (F0 m (pc + 3) ls (.long v :: rest))) : W p l e R s m args below meth c H locs cells slots Q (F0 m pc ls st0) :=
  vp_callSl hr.run (fun r h => by subst h; exact kk)
/-- a place of the world behind a call: one of the callee's, or one that stayed -/
def sgSrc (w1 ws : va_W) (q : Bool × Nat) : Option (Nat × va_E) := match q with
  | (true, j) => w1[j]?
  | (false, i) => ws[i]?
theorem sg_mix {ws2 w1 : va_W} {H1 : Heap} (is : List Nat) (hP : va_P D vwCl ws H) (hD : va_D A ws) (hC : is.map (fun i => ws[i]?) = wc.map some) (src : List (Bool × Nat)) (hs : src.map (fun q => sgSrc w1 ws q) = ws2.map some) (hdis : src.all (fun q => q.1 || decide (q.2 ∉ is)) = true) (hP1 : va_P D vwCl w1 H1)
    (hk : ∀ q : Nat, q < H.size → ¬ xA wc q → H1[q]? = H[q]?) : va_P D vwCl ws2 H1 := by
  intro k q hq
  have h1 : (src.map (fun q => sgSrc w1 ws q))[k]? = some (some q) := by rw [hs, List.getElem?_map, hq]; rfl
  rw [List.getElem?_map] at h1
  cases hi : src[k]? with
  | none => rw [hi] at h1; cases h1
  | some x =>
    rw [hi] at h1
    have h2 : sgSrc w1 ws x = some q := Option.some.inj h1
    obtain ⟨b, i⟩ := x
    cases b with
    | true => exact hP1 i q h2
    | false =>
      have h2 : ws[i]? = some q := h2
      have h3 := List.all_eq_true.mp hdis (false, i) (List.mem_of_getElem? hi)
      have h4 : i ∉ is := by simpa using h3
      refine (hP i q h2).kept (hk q.1 (hP i q h2).lt ?_)
      rintro ⟨t, e, ht⟩
      obtain ⟨i', h5, h6⟩ := sg_at hC t (q.1, e) ht
      have := hD.1 i i' q (q.1, e) h2 h6 rfl
      subst this
      exact h4 (List.mem_of_getElem? h5)
theorem sg_callWv {S : Type} {post : S → Prop} {w1 : S → va_W} (ws2 : S → va_W) (src : List (Bool × Nat)) (hr : va_Run p l e R s m args below meth c H locs cells slots 0 0 (F0 m pc ls st0) rest (va_Qv post (fun u t => va_P D vwCl (w1 u) t.heap) (xA wc) a) (xA wc)) (hP : va_P D vwCl ws H) (hD : va_D A ws) (hS : va_S A H0 H locs) (is : List Nat) (hC : is.map (fun i => ws[i]?) = wc.map some) (hs : ∀ u, src.map (fun q => sgSrc (w1 u) ws q) = (ws2 u).map some) (hdis : src.all (fun q => q.1 || decide (q.2 ∉ is)) = true) (hadr : ∀ u, (ws2 u).map Prod.fst = ws.map Prod.fst)
    (kk : ∀ (u : S) (H1 : Heap) (locs1 : List Loc), post u → va_P D vwCl (ws2 u) H1 → va_D A (ws2 u) → va_S A H0 H1 locs1 → W p l e R s m args below meth c H1 locs1 cells slots Q (F0 m (pc + 3) ls rest)) : W p l e R s m args below meth c H locs cells slots Q (F0 m pc ls st0) :=
  va_callv hr hS (fun q _ h => sg_xA hD hC q h) (fun q h => sg_xA hD hC q h) (fun u t H1 locs1 ht _ hp hB _ hk hS1 => kk u H1 locs1 hp (sg_mix is hP hD hC src (hs u) hdis (ht ▸ hB) hk) (sgD_adr (hadr u) hD) hS1)
theorem sg_callWi {S : Type} {post : Int32 → S → Prop} {w1 : S → va_W} (ws2 : S → va_W) (src : List (Bool × Nat)) (hr : va_Run p l e R s m args below meth c H locs cells slots 0 0 (F0 m pc ls st0) rest (va_Qi post (fun u t => va_P D vwCl (w1 u) t.heap) (xA wc) a) (xA wc)) (hP : va_P D vwCl ws H) (hD : va_D A ws) (hS : va_S A H0 H locs) (is : List Nat) (hC : is.map (fun i => ws[i]?) = wc.map some) (hs : ∀ u, src.map (fun q => sgSrc (w1 u) ws q) = (ws2 u).map some) (hdis : src.all (fun q => q.1 || decide (q.2 ∉ is)) = true) (hadr : ∀ u, (ws2 u).map Prod.fst = ws.map Prod.fst)
    (kk : ∀ (r : Int32) (u : S) (H1 : Heap) (locs1 : List Loc), post r u → va_P D vwCl (ws2 u) H1 → va_D A (ws2 u) → va_S A H0 H1 locs1 → W p l e R s m args below meth c H1 locs1 cells slots Q (F0 m (pc + 3) ls (.int r :: rest))) : W p l e R s m args below meth c H locs cells slots Q (F0 m pc ls st0) :=
  va_calli hr hS (fun q _ h => sg_xA hD hC q h) (fun q h => sg_xA hD hC q h) (fun r u t H1 locs1 ht _ hp hB _ hk hS1 => kk r u H1 locs1 hp (sg_mix is hP hD hC src (hs u) hdis (ht ▸ hB) hk) (sgD_adr (hadr u) hD) hS1)
theorem sg_callWl {S : Type} {post : Int64 → S → Prop} {w1 : S → va_W} (ws2 : S → va_W) (src : List (Bool × Nat)) (hr : va_Run p l e R s m args below meth c H locs cells slots 0 0 (F0 m pc ls st0) rest (va_Ql post (fun u t => va_P D vwCl (w1 u) t.heap) (xA wc) a) (xA wc)) (hP : va_P D vwCl ws H) (hD : va_D A ws) (hS : va_S A H0 H locs) (is : List Nat) (hC : is.map (fun i => ws[i]?) = wc.map some) (hs : ∀ u, src.map (fun q => sgSrc (w1 u) ws q) = (ws2 u).map some) (hdis : src.all (fun q => q.1 || decide (q.2 ∉ is)) = true) (hadr : ∀ u, (ws2 u).map Prod.fst = ws.map Prod.fst)
    (kk : ∀ (r : Int64) (u : S) (H1 : Heap) (locs1 : List Loc), post r u → va_P D vwCl (ws2 u) H1 → va_D A (ws2 u) → va_S A H0 H1 locs1 → W p l e R s m args below meth c H1 locs1 cells slots Q (F0 m (pc + 3) ls (.long r :: rest))) : W p l e R s m args below meth c H locs cells slots Q (F0 m pc ls st0) :=
  va_calll hr hS (fun q _ h => sg_xA hD hC q h) (fun q h => sg_xA hD hC q h) (fun r u t H1 locs1 ht _ hp hB _ hk hS1 => kk r u H1 locs1 hp (sg_mix is hP hD hC src (hs u) hdis (ht ▸ hB) hk) (sgD_adr (hadr u) hD) hS1)
/-- rows of an array of int arrays -/
theorem sg_aald {cc : ByteArray} (hexec : p.tables.exec = Jvm.exec) (hb : c.code = cc) (hK : sgK D cI cO s) (hP : va_P D vwCl ws H) (q0 : Nat) {n j b y : Nat} {f : Nat → Option Nat} (ha : ws[q0]? = some (b, .inl (cO, n, .inr (.inr (.inr (.inr f)))))) (hj : j < n) (hn : n < 2 ^ 31) (hv : f j = some y) (hdg : decode cc pc = .ok (.aaload, 1))
    (kk : W p l e R s m args below meth c H locs cells slots Q (F0 m (pc + 1) ls (.ref y :: rest))) : W p l e R s m args below meth c H locs cells slots Q (F0 m pc ls (.int (nI j) :: .ref b :: rest)) := by
  have hlt : (nI j).toNatClampNeg < n := by rw [nI_clamp (Nat.lt_trans hj hn)]; exact hj
  have hin : vp_in (nI j) n := vp_in_nI hj hn
  exact W.aald (v := .ref y) (ty := .array .int) hexec hb (hP q0 _ ha) ((hK.1.2 1 (cO, .array .int) rfl).1 n (fun j => va_rf (f j))) rfl (fun q => by cases q) (by show ¬ (nI j < 0 ∨ (arrV _ _ _).slots.size ≤ _); rw [arrV_size]; exact hin) (by show (arrV _ _ _).slots[_]? = _; rw [arrV_read _ _ hlt, nI_clamp (Nat.lt_trans hj hn), hv]; rfl) rfl rfl hdg kk
/-- a method's ends -/
theorem sg_endS (hS : va_S A s.heap H locs) {t : State} (ht : t.heap = H) : va_F A s t := hS.F ht
end SGC

/-! the law: its state, and what each call does to it -/
def lwP (ord ns : Nat) (e ln : Nat → Nat) (wd : Nat → Nat → Nat) (KO KU : Nat) (fL : Nat → Int32) (fR : Nat → Nat → Int32) (f1 f2 f3 fe ge gL gW lim : Nat → Int32) : Prop :=
  ((1 ≤ ord ∧ ord ≤ 3) ∧ ns ≤ 8 ∧ sgE e ∧ KO < 4294967296 ^ 9 ∧ KU < 4294967296 ^ 9) ∧ (∀ s, s ≤ ns → fL s = nI (ln s) ∧ ∀ i, i < ln s → fR s i = nI (wd s i)) ∧ sgMm ln wd ns gL gW ∧ sgHold (rwS ln wd ns) f1 f2 f3 ∧ ((∀ k, 1 ≤ k → k ≤ 3 → fe k = nI (e k)) ∧ ∀ k, 1 ≤ k → k ≤ 3 → ge k = nI (e k)) ∧ sgLim lim 80 KO ∧ sgLim lim 120 KU
theorem lwP_order {ord ns : Nat} {e ln : Nat → Nat} {wd : Nat → Nat → Nat} {KO KU : Nat} {fL : Nat → Int32} {fR : Nat → Nat → Int32} {f1 f2 f3 fe ge gL gW lim : Nat → Int32} (h : lwP ord ns e ln wd KO KU fL fR f1 f2 f3 fe ge gL gW lim) {k : Nat} (hk : 1 ≤ k ∧ k ≤ 3) : lwP k ns e ln wd KO KU fL fR f1 f2 f3 fe ge gL gW lim := ⟨⟨hk, h.1.2⟩, h.2⟩
theorem lwP_disc {ord ns : Nat} {e ln : Nat → Nat} {wd : Nat → Nat → Nat} {KO KU : Nat} {fL : Nat → Int32} {fR : Nat → Nat → Int32} {f1 f2 f3 fe ge gL gW lim : Nat → Int32} (h : lwP ord ns e ln wd KO KU fL fR f1 f2 f3 fe ge gL gW lim) {k v : Nat} (hv : 1 ≤ v ∧ v ≤ 8) : lwP ord ns (upN e k v) ln wd KO KU fL fR f1 f2 f3 (upd fe k (nI v)) (upd ge k (nI v)) gL gW lim := by
  obtain ⟨⟨a1, a2, a3, a4⟩, b, c, d, ⟨e1, e2⟩, f⟩ := h
  refine ⟨⟨a1, a2, fun j h1 h2 => ?_, a4⟩, b, c, d, ⟨fun j h1 h2 => ?_, fun j h1 h2 => ?_⟩, f⟩
  · by_cases q : j = k
    · rw [q, upN_s]; exact hv
    · rw [upN_n q]; exact a3 j h1 h2
  · by_cases q : j = k
    · rw [q, upN_s, pk_us]
    · rw [upN_n q, pk_un q]; exact e1 j h1 h2
  · by_cases q : j = k
    · rw [q, upN_s, pk_us]
    · rw [upN_n q, pk_un q]; exact e2 j h1 h2
theorem sgHold_congr {rw rw' : Nat → Nat → Nat → Nat → Nat} {f1 f2 f3 : Nat → Int32} (h : ∀ k a b c, rw' k a b c = rw k a b c) (hH : sgHold rw f1 f2 f3) : sgHold rw' f1 f2 f3 := ⟨fun r hr => by rw [h]; exact hH.1 r hr, fun r hr => by rw [h]; exact hH.2.1 r hr, fun r hr => by rw [h]; exact hH.2.2 r hr⟩
def upW (wd : Nat → Nat → Nat) (s n w : Nat) : Nat → Nat → Nat := fun t => if t = s then upN (wd s) n w else wd t
theorem upW_s (wd : Nat → Nat → Nat) (s n w : Nat) : upW wd s n w s = upN (wd s) n w := if_pos rfl
theorem upW_n {wd : Nat → Nat → Nat} {s n w t : Nat} (h : t ≠ s) : upW wd s n w t = wd t := if_neg h
theorem lwP_word {ord ns : Nat} {e ln : Nat → Nat} {wd : Nat → Nat → Nat} {KO KU : Nat} {fL : Nat → Int32} {fR : Nat → Nat → Int32} {f1 f2 f3 fe ge gL gW lim : Nat → Int32} (h : lwP ord ns e ln wd KO KU fL fR f1 f2 f3 fe ge gL gW lim) {w : Nat} (hw : w < 5) (hl : ln ns < 8) : lwP ord ns e (upN ln ns (ln ns + 1)) (upW wd ns (ln ns) w) KO KU (upd fL ns (nI (ln ns + 1))) (va_up fR ns (upd (fR ns) (ln ns) (nI w))) f1 f2 f3 fe ge (upd gL ns (nI (ln ns + 1))) (upd gW (8 * ns + ln ns) (nI w)) lim := by
  obtain ⟨a, b, c, d, ee, f⟩ := h
  refine ⟨a, fun s hs => ?_, fun s hs => ?_, ?_, ee, f⟩
  · by_cases q : s = ns
    · subst q
      rw [pk_us, upN_s, va_up_self, upW_s]
      refine ⟨rfl, fun i hi => ?_⟩
      by_cases q2 : i = ln s
      · rw [q2, pk_us, upN_s]
      · rw [pk_un q2, upN_n q2]
        exact (b s hs).2 i (by omega)
    · rw [pk_un q, upN_n q, va_up_ne _ _ q, upW_n q]
      exact b s hs
  · obtain ⟨c1, c2, c3, c4⟩ := c s hs
    by_cases q : s = ns
    · subst q
      rw [pk_us, upN_s, upW_s]
      refine ⟨rfl, by omega, fun i hi => ?_, fun j hj => ?_⟩
      · by_cases q2 : i = ln s
        · rw [q2, pk_us, upN_s]
        · rw [pk_un (by omega), upN_n q2]
          exact c3 i (by omega)
      · by_cases q2 : j = ln s
        · rw [q2, upN_s]; exact hw
        · rw [upN_n q2]
          exact c4 j (by omega)
    · rw [pk_un q, upN_n q, upW_n q]
      refine ⟨c1, c2, fun i hi => ?_, c4⟩
      rw [pk_un (by omega)]
      exact c3 i hi
  · refine sgHold_congr (fun k x y v => ?_) d
    exact sgRaw_congr k x y v ns (fun s hs => upN_n (by omega)) (fun s j hs hj => by rw [upW_n (by omega)])
theorem lwP_learn {ord ns : Nat} {e ln : Nat → Nat} {wd : Nat → Nat → Nat} {KO KU : Nat} {fL : Nat → Int32} {fR : Nat → Nat → Int32} {f1 f2 f3 g1 g2 g3 fe ge gL gW lim : Nat → Int32} (h : lwP ord ns e ln wd KO KU fL fR f1 f2 f3 fe ge gL gW lim) (hn : ns < 8) (hH : sgHold (rwS ln wd (ns + 1)) g1 g2 g3) : lwP ord (ns + 1) e (upN ln (ns + 1) 0) wd KO KU (upd fL (ns + 1) (nI 0)) fR g1 g2 g3 fe ge (upd gL (ns + 1) (nI 0)) gW lim := by
  obtain ⟨⟨a1, a2, a3⟩, b, c, d, ee, f⟩ := h
  refine ⟨⟨a1, by omega, a3⟩, fun s hs => ?_, fun s hs => ?_, ?_, ee, f⟩
  · by_cases q : s = ns + 1
    · subst q
      rw [pk_us, upN_s]
      exact ⟨rfl, fun i hi => absurd hi (Nat.not_lt_zero _)⟩
    · rw [pk_un q, upN_n q]
      exact b s (by omega)
  · by_cases q : s = ns + 1
    · subst q
      rw [pk_us, upN_s]
      exact ⟨rfl, by omega, fun i hi => absurd hi (Nat.not_lt_zero _), fun i hi => absurd hi (Nat.not_lt_zero _)⟩
    · rw [pk_un q, upN_n q]
      exact c s (by omega)
  · refine sgHold_congr (fun k x y v => ?_) hH
    exact sgRaw_congr k x y v (ns + 1) (fun s hs => upN_n (by omega)) (fun _ _ _ _ => rfl)
theorem lwP_erase {ord ns : Nat} {e ln : Nat → Nat} {wd : Nat → Nat → Nat} {KO KU : Nat} {fL : Nat → Int32} {fR : Nat → Nat → Int32} {f1 f2 f3 fe ge gL gW lim : Nat → Int32} (h : lwP ord ns e ln wd KO KU fL fR f1 f2 f3 fe ge gL gW lim) : lwP ord ns e (upN ln ns 0) wd KO KU (upd fL ns (nI 0)) fR f1 f2 f3 fe ge (upd gL ns (nI 0)) gW lim := by
  obtain ⟨a, b, c, d, ee, f⟩ := h
  refine ⟨a, fun s hs => ?_, fun s hs => ?_, ?_, ee, f⟩
  · by_cases q : s = ns
    · subst q
      rw [pk_us, upN_s]
      exact ⟨rfl, fun i hi => absurd hi (Nat.not_lt_zero _)⟩
    · rw [pk_un q, upN_n q]
      exact b s hs
  · by_cases q : s = ns
    · subst q
      rw [pk_us, upN_s]
      exact ⟨rfl, by omega, fun i hi => absurd hi (Nat.not_lt_zero _), fun i hi => absurd hi (Nat.not_lt_zero _)⟩
    · rw [pk_un q, upN_n q]
      exact c s hs
  · refine sgHold_congr (fun k x y v => ?_) d
    exact sgRaw_congr k x y v ns (fun s hs => upN_n (by omega)) (fun _ _ _ _ => rfl)
theorem lwP_forget {ord n : Nat} {e ln : Nat → Nat} {wd : Nat → Nat → Nat} {KO KU : Nat} {fL : Nat → Int32} {fR : Nat → Nat → Int32} {f1 f2 f3 g1 g2 g3 fe ge gL gW lim : Nat → Int32} (h : lwP ord (n + 1) e ln wd KO KU fL fR f1 f2 f3 fe ge gL gW lim) (hH : sgHold (rwS ln wd n) g1 g2 g3) : lwP ord n e ln wd KO KU fL fR g1 g2 g3 fe ge gL gW lim := by
  obtain ⟨⟨a1, a2, a3⟩, b, c, d, ee, f⟩ := h
  exact ⟨⟨a1, by omega, a3⟩, fun s hs => b s (by omega), fun s hs => c s (by omega), hH, ee, f⟩
theorem lwP_lim {ord ns : Nat} {e ln : Nat → Nat} {wd : Nat → Nat → Nat} {KO KU KO' KU' : Nat} {fL : Nat → Int32} {fR : Nat → Nat → Int32} {f1 f2 f3 fe ge gL gW lim lim' : Nat → Int32} (h : lwP ord ns e ln wd KO KU fL fR f1 f2 f3 fe ge gL gW lim) (h1 : KO' < 4294967296 ^ 9) (h2 : KU' < 4294967296 ^ 9) (h3 : sgLim lim' 80 KO') (h4 : sgLim lim' 120 KU') : lwP ord ns e ln wd KO' KU' fL fR f1 f2 f3 fe ge gL gW lim' := by
  obtain ⟨⟨a1, a2, a3, a4⟩, b, c, d, ee, f⟩ := h
  exact ⟨⟨a1, a2, a3, h1, h2⟩, b, c, d, ee, h3, h4⟩
theorem sg_sym {k : Nat} {y : Int32} (h : (k : Int) < 2 ∨ (0 ≤ y.toInt ∧ y.toInt < 7)) : ∃ b : Nat, b < 7 ∧ (2 ≤ k → y = nI b) := by
  by_cases h2 : 2 ≤ k
  · exact ⟨y.toInt.toNat, by omega, fun _ => sg_ofInt (by omega) (by omega)⟩
  · exact ⟨0, by omega, fun h => absurd h h2⟩
theorem sg_sym3 {k : Nat} {y : Int32} (h : (k : Int) < 3 ∨ (0 ≤ y.toInt ∧ y.toInt < 7)) : ∃ b : Nat, b < 7 ∧ (3 ≤ k → y = nI b) := by
  by_cases h2 : 3 ≤ k
  · exact ⟨y.toInt.toNat, by omega, fun _ => sg_ofInt (by omega) (by omega)⟩
  · exact ⟨0, by omega, fun h => absurd h h2⟩
theorem sg_num {x : Int32} {lo hi : Nat} (h : (lo : Int) ≤ x.toInt ∧ x.toInt ≤ (hi : Int)) (hh : hi < 2147483648) : ∃ k : Nat, (lo ≤ k ∧ k ≤ hi) ∧ x = nI k := ⟨x.toInt.toNat, by omega, sg_ofInt (by omega) (by omega)⟩
theorem sgPt_dg {X j : Nat} (hX : X < 4294967296 ^ 9) (hj : j < 2147483648) : sgPt 9 X (nI j) = nI (dg 4294967296 j X) := by
  unfold sgPt
  rw [nI_toInt hj]
  by_cases h : j < 9
  · rw [if_pos (by omega)]
    rfl
  · rw [if_neg (by omega), dg_pw (by decide) hX (by omega)]
theorem sgPt_out {X : Nat} {x : Int32} (h : x.toInt < 0 ∨ 19 < x.toInt) : sgPt 9 X x = nI 0 := by
  unfold sgPt
  rw [if_neg (by omega)]
theorem lg_cmp_self (x : Int64) : lg_cmp x x = 0 := by
  unfold lg_cmp
  rw [if_neg (by rw [gt_iff_lt, Int64.lt_iff_toInt_lt]; omega), if_pos rfl]
section LWR
variable {p : Program} {l : Launch} {e : Env} {R : Room} {s : State} {m : MethodId} {args : Array Value} {below : List Frame} {meth : Method} {c : Code} {H H0 : Heap} {locs : List Loc} {cells slots : Nat} {Q : State → Prop} {cc : ByteArray} {pc : Nat} {ls : Array Slot} {rest : List Value} {A : Nat → Prop}
theorem n_sld (hexec : p.tables.exec = Jvm.exec) (hb : c.code = cc) {b L : Nat} {xs : Nat → Int32} (hX : va_X b L xs s H0) (hbl : b < H0.size) (hbA : ¬ A b) (hS : va_S A H0 H locs) {j : Nat} {v : Int32} (hj : j < L) (hL : L < 2147483648) (hv : xs j = v) (hdg : decode cc pc = .ok (.iaload, 1))
    (kk : W p l e R s m args below meth c H locs cells slots Q (F0 m (pc + 1) ls (.int v :: rest))) : W p l e R s m args below meth c H locs cells slots Q (F0 m pc ls (.int (nI j) :: .ref b :: rest)) :=
  va_sld hexec hb hX hbl hbA hS (vp_in_nI hj hL) hdg (sw_i (by rw [nI_clamp (Nat.lt_trans hj hL)]; exact hv) kk)
theorem ci_same (hexec : p.tables.exec = Jvm.exec) (hb : c.code = cc) {x : Int32} {off : Int} {tgt : Nat} (hdg : decode cc pc = .ok (.if_icmp .eq off, 3)) (ht : (pc : Int) + off = (tgt : Int)) (k : W p l e R s m args below meth c H locs cells slots Q (F0 m tgt ls rest)) : W p l e R s m args below meth c H locs cells slots Q (F0 m pc ls (.int x :: .int x :: rest)) :=
  lv_icmp_eq hexec hb hdg ht (fun _ => k) (fun h => absurd rfl h)
theorem ci_lsame (hexec : p.tables.exec = Jvm.exec) (hb : c.code = cc) {x : Int64} {off : Int} {tgt : Nat} (hd0 : decode cc pc = .ok (.lcmp, 1)) (hdg : decode cc (pc + 1) = .ok (.ifCond .eq off, 3)) (ht : ((pc + 1 : Nat) : Int) + off = (tgt : Int)) (k : W p l e R s m args below meth c H locs cells slots Q (F0 m tgt ls rest)) : W p l e R s m args below meth c H locs cells slots Q (F0 m pc ls (.long x :: .long x :: rest)) :=
  W.lcmp hexec hb hd0 (lv_if_eq hexec hb hdg ht (fun _ => k) (fun h => absurd (lg_cmp_self x) h))
end LWR

set_option maxHeartbeats 4000000 in
set_option maxRecDepth 100000 in
theorem lw_c7 {pZ : Program} {l : Launch} {eZ : Env} {sZ : State} {mZ : MethodId} {belowZ : List Frame} {methZ : Method} {cZ : Code} {b L : Nat} {xs : Nat → Int32} {H : Heap} {locs : List Loc} {ls : Array Slot} {Q : State → Prop} {A : Nat → Prop} {D : va_G} {cI cO : ClassId} {z mz : Nat} {ra ax am : Nat → Nat} {i cells slots : Nat} (hce : cells ≤ 600000) (hsl : slots ≤ 7302250) (hx : pZ.tables.exec = Jvm.exec) (hb : cZ.code = cL_law) (hml : cZ.maxLocals = 4) (hown : sZ.vm.findClass RL = some mZ.cls) (hts : ∀ wZ ∈ sgT, wZ.before #[Value.ref b] sZ = true) (hX : va_X b L xs sZ sZ.heap) (hbl : b < sZ.heap.size) (hbA : ¬ A b) (hL : L ≤ 2560) (hK : sgK D cI cO sZ) (hi : i + 5 ≤ L) (hl : lv_has ls 4 [(3, .int (nI i)), (2, .ref mz), (1, .ref z), (0, .ref b)]) (hI : lwI D cI cO A sZ.heap z mz ra ax am H locs) (kk : ∀ (H : Heap) (locs : List Loc), lwI D cI cO A sZ.heap z mz ra ax am H locs → W pZ l eZ room_1 sZ mZ #[Value.ref b] belowZ methZ cZ H locs cells slots Q (F0 mZ 607 ls [])) : W pZ l eZ room_1 sZ mZ #[Value.ref b] belowZ methZ cZ H locs cells slots Q (F0 mZ 287 ls []) := by
  obtain ⟨ord, ns, e, ln, wd, KO, KU, fL, fR, f1, f2, f3, fe, x0, x1, cf, cg, xf, yf, ev, y0, y1, ge, gL, gW, ga, gb, gf, lim, hP, hD, hS, hpu⟩ := hI
  have hpu0 := hpu
  obtain ⟨⟨ho, hns, hE, hKO, hKU⟩, hSt, hMm, hH, ⟨hfe, hge⟩, hlO, hlU⟩ := hpu0
  obtain ⟨hL0, hW⟩ := hSt ns (Nat.le_refl _)
  obtain ⟨hG0, hl8, hGW, hWd⟩ := hMm ns (Nat.le_refl _)
  have hB := rwS_bd hns hMm
  have hF : sgFlat (rwS ln wd ns) := sgRaw_flat ln wd ns
  by_cases hv : (1 ≤ (xs (i + 1)).toInt ∧ (xs (i + 1)).toInt ≤ 3) ∧ ((xs (i + 1)).toInt < 2 ∨ (0 ≤ (xs (i + 3)).toInt ∧ (xs (i + 3)).toInt < 7)) ∧ ((xs (i + 1)).toInt < 3 ∨ (0 ≤ (xs (i + 2)).toInt ∧ (xs (i + 2)).toInt < 7))
  · obtain ⟨k, hk, ek⟩ := sg_num (x := xs (i + 1)) (lo := 1) (hi := 3) (by omega) (by omega)
    have hkI := sg_n (n := k) (by omega)
    have hkx : (xs (i + 1)).toInt = (k : Int) := by rw [ek]; exact hkI
    obtain ⟨bb, hbb, hy⟩ := sg_sym (k := k) (y := xs (i + 3)) (by omega)
    obtain ⟨aa, ha, hz⟩ := sg_sym3 (k := k) (y := xs (i + 2)) (by omega)
    refine lv_aload_n hx hb dL_law_287 rfl (lv_at hl 2 rfl) ?_
    refine lv_aload_n hx hb dL_law_288 rfl (lv_at hl 3 rfl) ?_
    refine lv_iload_n hx hb dL_law_289 rfl (lv_at hl 0 rfl) ?_
    refine lv_iconst (v := nI 1) hx hb dL_law_290 (by decide) ?_
    refine n_iadd hx hb dL_law_291 ?_
    refine n_sld (v := nI k) hx hb hX hbl hbA hS (by omega) (by omega) ek dL_law_292 ?_
    refine lv_aload_n hx hb dL_law_293 rfl (lv_at hl 3 rfl) ?_
    refine lv_iload_n hx hb dL_law_294 rfl (lv_at hl 0 rfl) ?_
    refine lv_iconst (v := nI 2) hx hb dL_law_295 (by decide) ?_
    refine n_iadd hx hb dL_law_296 ?_
    refine n_sld (v := xs (i + 2)) hx hb hX hbl hbA hS (by omega) (by omega) rfl dL_law_297 ?_
    refine lv_aload_n hx hb dL_law_298 rfl (lv_at hl 3 rfl) ?_
    refine lv_iload_n hx hb dL_law_299 rfl (lv_at hl 0 rfl) ?_
    refine lv_iconst (v := nI 3) hx hb dL_law_300 (by decide) ?_
    refine n_iadd hx hb dL_law_301 ?_
    refine n_sld (v := xs (i + 3)) hx hb hX hbl hbA hS (by omega) (by omega) rfl dL_law_302 ?_
    refine sg_callRi (va_runV (As := [.int (nI k), .int (xs (i + 2)), .int (xs (i + 3))]) (rest := []) (C := RX5) ⟨hx, hb, hml, hown, hts⟩ (c_X5_total l D cI cO z (ax 0) (ax 3) (ax 7) (ax 8) (ax 9) (ax 14) (ax 19) (ax 21) (ax 4) (ax 5) (ax 6) ord f1 f2 f3 (rwS ln wd ns) k (xs (i + 2)) (xs (i + 3)) aa bb hH hF hB (by omega) (by omega) hy hz (by omega) (by omega)) ⟨(sg_cB 3 hts mcX5_total ml_L_45 in_X5 rfl rfl (by decide +kernel) ⟨Nat.le_of_ble_eq_true rfl, Nat.le_of_ble_eq_true rfl⟩), hts _ im_X5_total, hts _ se_X5_total⟩ (sg_pV (q0 := 9) hK hP [9, 13, 14, 15, 16] rfl rfl rfl rfl) rfl rfl hl.1 rfl (lv_room (Nat.le_of_ble_eq_true rfl)) dL_law_303 ⟨hce, hsl⟩) ?_
    refine lv_aload_n hx hb dL_law_306 rfl (lv_at hl 1 rfl) ?_
    refine lv_aload_n hx hb dL_law_307 rfl (lv_at hl 3 rfl) ?_
    refine lv_iload_n hx hb dL_law_308 rfl (lv_at hl 0 rfl) ?_
    refine lv_iconst (v := nI 1) hx hb dL_law_309 (by decide) ?_
    refine n_iadd hx hb dL_law_310 ?_
    refine n_sld (v := nI k) hx hb hX hbl hbA hS (by omega) (by omega) ek dL_law_311 ?_
    refine lv_aload_n hx hb dL_law_312 rfl (lv_at hl 3 rfl) ?_
    refine lv_iload_n hx hb dL_law_313 rfl (lv_at hl 0 rfl) ?_
    refine lv_iconst (v := nI 2) hx hb dL_law_314 (by decide) ?_
    refine n_iadd hx hb dL_law_315 ?_
    refine n_sld (v := xs (i + 2)) hx hb hX hbl hbA hS (by omega) (by omega) rfl dL_law_316 ?_
    refine lv_aload_n hx hb dL_law_317 rfl (lv_at hl 3 rfl) ?_
    refine lv_iload_n hx hb dL_law_318 rfl (lv_at hl 0 rfl) ?_
    refine lv_iconst (v := nI 3) hx hb dL_law_319 (by decide) ?_
    refine n_iadd hx hb dL_law_320 ?_
    refine n_sld (v := xs (i + 3)) hx hb hX hbl hbA hS (by omega) (by omega) rfl dL_law_321 ?_
    refine sg_callWi (fun u322 => (rw9 ra cI fR ++ [(z, .inr (5, [.ref (ax 0), .ref (ax 3), .ref (ax 7), .ref (ax 8), .ref (ax 9), .ref (ax 14), .ref (ax 19), .ref (ax 21)])), ((ax 0), .inr (4, [.ref (ax 1), .ref (ax 2), .int (nI ns)])), ((ax 1), .inl (cO, 9, .inr (.inr (.inr (.inr (fun j => some (ra j))))))), ((ax 2), .inl (cI, 9, .inl fL)), ((ax 3), .inr (1, [.ref (ax 4), .ref (ax 5), .ref (ax 6), .int (nI ord)])), ((ax 4), .inl (cI, 7, .inl f1)), ((ax 5), .inl (cI, 49, .inl f2)), ((ax 6), .inl (cI, 343, .inl f3)), ((ax 7), .inl (cI, 4, .inl fe)), ((ax 8), .inr (0, [.long x0, .long x1])), ((ax 9), .inr (3, [.ref (ax 10), .ref (ax 12)])), ((ax 10), .inr (2, [.ref (ax 11)])), ((ax 11), .inl (cI, 9, .inl cf)), ((ax 12), .inr (2, [.ref (ax 13)])), ((ax 13), .inl (cI, 9, .inl cg)), ((ax 14), .inr (3, [.ref (ax 15), .ref (ax 17)])), ((ax 15), .inr (2, [.ref (ax 16)])), ((ax 16), .inl (cI, 9, .inl (dF KO))), ((ax 17), .inr (2, [.ref (ax 18)])), ((ax 18), .inl (cI, 9, .inl (dF KU))), ((ax 19), .inr (2, [.ref (ax 20)])), ((ax 20), .inl (cI, 18, .inl xf)), ((ax 21), .inr (2, [.ref (ax 22)])), ((ax 22), .inl (cI, 18, .inl yf)), (mz, .inr (6, [.int (nI ord), .ref (am 0), .int (nI ns), .ref (am 1), .ref (am 2), .int (nI u322.1), .ref (am 3), .ref (am 4), .ref (am 5), .long y0, .long y1, .ref (am 6)])), ((am 0), .inl (cI, 4, .inl ge)), ((am 1), .inl (cI, 9, .inl gL)), ((am 2), .inl (cI, 72, .inl gW)), ((am 3), .inl (cI, 72, .inl u322.2.1)), ((am 4), .inl (cI, 72, .inl u322.2.2.1)), ((am 5), .inl (cI, 72, .inl u322.2.2.2)), ((am 6), .inl (cI, 240, .inl lim))])) [(false, 0), (false, 1), (false, 2), (false, 3), (false, 4), (false, 5), (false, 6), (false, 7), (false, 8), (false, 9), (false, 10), (false, 11), (false, 12), (false, 13), (false, 14), (false, 15), (false, 16), (false, 17), (false, 18), (false, 19), (false, 20), (false, 21), (false, 22), (false, 23), (false, 24), (false, 25), (false, 26), (false, 27), (false, 28), (false, 29), (false, 30), (false, 31), (false, 32), (true, 0), (true, 1), (true, 2), (true, 3), (true, 4), (true, 5), (true, 6), (true, 7)] (va_runV (As := [.int (nI k), .int (xs (i + 2)), .int (xs (i + 3))]) (rest := [.int (nI (sgTot (rwS ln wd ns) ord k aa bb 6))]) (C := RX6) ⟨hx, hb, hml, hown, hts⟩ (c_X6_total l D cI cO mz (am 0) (am 1) (am 2) (am 3) (am 4) (am 5) (am 6) ord ns ev y0 y1 ge gL gW ga gb gf lim ln wd k (xs (i + 2)) (xs (i + 3)) aa bb (by omega) hMm (by omega) (by omega) hy hz (by omega) (by omega)) ⟨(sg_cB 3 hts mcX6_total ml_L_49 in_X6 rfl rfl (by decide +kernel) ⟨Nat.le_of_ble_eq_true rfl, Nat.le_of_ble_eq_true rfl⟩), hts _ im_X6_total, hts _ se_X6_total⟩ (sg_wV (q0 := 33) hK hP hD [33, 34, 35, 36, 37, 38, 39, 40] (by decide) rfl rfl rfl rfl) rfl rfl hl.1 rfl (lv_room (Nat.le_of_ble_eq_true rfl)) dL_law_322 ⟨hce, hsl⟩) hP hD hS [33, 34, 35, 36, 37, 38, 39, 40] rfl (fun _ => rfl) (by decide) (fun _ => rfl) (fun r322 u322 H locs hw322 hP hD hS => ?_)
    subst hw322
    refine ci_same (tgt := 607) hx hb dL_law_325 rfl ?_
    exact kk _ _ ⟨ord, ns, e, ln, wd, KO, KU, fL, fR, f1, f2, f3, fe, x0, x1, cf, cg, xf, yf, nI u322.1, y0, y1, ge, gL, gW, u322.2.1, u322.2.2.1, u322.2.2.2, lim, hP, hD, hS, hpu⟩
  · skip
    refine lv_aload_n hx hb dL_law_287 rfl (lv_at hl 2 rfl) ?_
    refine lv_aload_n hx hb dL_law_288 rfl (lv_at hl 3 rfl) ?_
    refine lv_iload_n hx hb dL_law_289 rfl (lv_at hl 0 rfl) ?_
    refine lv_iconst (v := nI 1) hx hb dL_law_290 (by decide) ?_
    refine n_iadd hx hb dL_law_291 ?_
    refine n_sld (v := xs (i + 1)) hx hb hX hbl hbA hS (by omega) (by omega) rfl dL_law_292 ?_
    refine lv_aload_n hx hb dL_law_293 rfl (lv_at hl 3 rfl) ?_
    refine lv_iload_n hx hb dL_law_294 rfl (lv_at hl 0 rfl) ?_
    refine lv_iconst (v := nI 2) hx hb dL_law_295 (by decide) ?_
    refine n_iadd hx hb dL_law_296 ?_
    refine n_sld (v := xs (i + 2)) hx hb hX hbl hbA hS (by omega) (by omega) rfl dL_law_297 ?_
    refine lv_aload_n hx hb dL_law_298 rfl (lv_at hl 3 rfl) ?_
    refine lv_iload_n hx hb dL_law_299 rfl (lv_at hl 0 rfl) ?_
    refine lv_iconst (v := nI 3) hx hb dL_law_300 (by decide) ?_
    refine n_iadd hx hb dL_law_301 ?_
    refine n_sld (v := xs (i + 3)) hx hb hX hbl hbA hS (by omega) (by omega) rfl dL_law_302 ?_
    refine sg_callRi (va_runV (As := [.int (xs (i + 1)), .int (xs (i + 2)), .int (xs (i + 3))]) (rest := []) (C := RX5) ⟨hx, hb, hml, hown, hts⟩ (c_total_bad l D cI cO z (ax 0) (ax 3) (ax 7) (ax 8) (ax 9) (ax 14) (ax 19) (ax 21) (xs (i + 1)) (xs (i + 2)) (xs (i + 3)) (by omega)) ⟨(sg_cB 3 hts mcX5_total ml_L_45 in_X5 rfl rfl (by decide +kernel) ⟨Nat.le_of_ble_eq_true rfl, Nat.le_of_ble_eq_true rfl⟩), hts _ im_X5_total, hts _ se_X5_total⟩ (sg_pV (q0 := 9) hK hP [9] rfl rfl rfl rfl) rfl rfl hl.1 rfl (lv_room (Nat.le_of_ble_eq_true rfl)) dL_law_303 ⟨hce, hsl⟩) ?_
    refine lv_aload_n hx hb dL_law_306 rfl (lv_at hl 1 rfl) ?_
    refine lv_aload_n hx hb dL_law_307 rfl (lv_at hl 3 rfl) ?_
    refine lv_iload_n hx hb dL_law_308 rfl (lv_at hl 0 rfl) ?_
    refine lv_iconst (v := nI 1) hx hb dL_law_309 (by decide) ?_
    refine n_iadd hx hb dL_law_310 ?_
    refine n_sld (v := xs (i + 1)) hx hb hX hbl hbA hS (by omega) (by omega) rfl dL_law_311 ?_
    refine lv_aload_n hx hb dL_law_312 rfl (lv_at hl 3 rfl) ?_
    refine lv_iload_n hx hb dL_law_313 rfl (lv_at hl 0 rfl) ?_
    refine lv_iconst (v := nI 2) hx hb dL_law_314 (by decide) ?_
    refine n_iadd hx hb dL_law_315 ?_
    refine n_sld (v := xs (i + 2)) hx hb hX hbl hbA hS (by omega) (by omega) rfl dL_law_316 ?_
    refine lv_aload_n hx hb dL_law_317 rfl (lv_at hl 3 rfl) ?_
    refine lv_iload_n hx hb dL_law_318 rfl (lv_at hl 0 rfl) ?_
    refine lv_iconst (v := nI 3) hx hb dL_law_319 (by decide) ?_
    refine n_iadd hx hb dL_law_320 ?_
    refine n_sld (v := xs (i + 3)) hx hb hX hbl hbA hS (by omega) (by omega) rfl dL_law_321 ?_
    refine sg_callWi (fun u322 => (rw9 ra cI fR ++ [(z, .inr (5, [.ref (ax 0), .ref (ax 3), .ref (ax 7), .ref (ax 8), .ref (ax 9), .ref (ax 14), .ref (ax 19), .ref (ax 21)])), ((ax 0), .inr (4, [.ref (ax 1), .ref (ax 2), .int (nI ns)])), ((ax 1), .inl (cO, 9, .inr (.inr (.inr (.inr (fun j => some (ra j))))))), ((ax 2), .inl (cI, 9, .inl fL)), ((ax 3), .inr (1, [.ref (ax 4), .ref (ax 5), .ref (ax 6), .int (nI ord)])), ((ax 4), .inl (cI, 7, .inl f1)), ((ax 5), .inl (cI, 49, .inl f2)), ((ax 6), .inl (cI, 343, .inl f3)), ((ax 7), .inl (cI, 4, .inl fe)), ((ax 8), .inr (0, [.long x0, .long x1])), ((ax 9), .inr (3, [.ref (ax 10), .ref (ax 12)])), ((ax 10), .inr (2, [.ref (ax 11)])), ((ax 11), .inl (cI, 9, .inl cf)), ((ax 12), .inr (2, [.ref (ax 13)])), ((ax 13), .inl (cI, 9, .inl cg)), ((ax 14), .inr (3, [.ref (ax 15), .ref (ax 17)])), ((ax 15), .inr (2, [.ref (ax 16)])), ((ax 16), .inl (cI, 9, .inl (dF KO))), ((ax 17), .inr (2, [.ref (ax 18)])), ((ax 18), .inl (cI, 9, .inl (dF KU))), ((ax 19), .inr (2, [.ref (ax 20)])), ((ax 20), .inl (cI, 18, .inl xf)), ((ax 21), .inr (2, [.ref (ax 22)])), ((ax 22), .inl (cI, 18, .inl yf)), (mz, .inr (6, [.int (nI ord), .ref (am 0), .int (nI ns), .ref (am 1), .ref (am 2), .int (nI u322.1), .ref (am 3), .ref (am 4), .ref (am 5), .long y0, .long y1, .ref (am 6)])), ((am 0), .inl (cI, 4, .inl ge)), ((am 1), .inl (cI, 9, .inl gL)), ((am 2), .inl (cI, 72, .inl gW)), ((am 3), .inl (cI, 72, .inl u322.2.1)), ((am 4), .inl (cI, 72, .inl u322.2.2.1)), ((am 5), .inl (cI, 72, .inl u322.2.2.2)), ((am 6), .inl (cI, 240, .inl lim))])) [(false, 0), (false, 1), (false, 2), (false, 3), (false, 4), (false, 5), (false, 6), (false, 7), (false, 8), (false, 9), (false, 10), (false, 11), (false, 12), (false, 13), (false, 14), (false, 15), (false, 16), (false, 17), (false, 18), (false, 19), (false, 20), (false, 21), (false, 22), (false, 23), (false, 24), (false, 25), (false, 26), (false, 27), (false, 28), (false, 29), (false, 30), (false, 31), (false, 32), (true, 0), (true, 1), (true, 2), (true, 3), (true, 4), (true, 5), (true, 6), (true, 7)] (va_runV (As := [.int (xs (i + 1)), .int (xs (i + 2)), .int (xs (i + 3))]) (rest := [.int (nI 0)]) (C := RX6) ⟨hx, hb, hml, hown, hts⟩ (r_total_bad l D cI cO mz (am 0) (am 1) (am 2) (am 3) (am 4) (am 5) (am 6) ord ns ev y0 y1 ge gL gW ga gb gf lim ln wd (xs (i + 1)) (xs (i + 2)) (xs (i + 3)) (by omega) hMm (by omega)) ⟨(sg_cB 3 hts mcX6_total ml_L_49 in_X6 rfl rfl (by decide +kernel) ⟨Nat.le_of_ble_eq_true rfl, Nat.le_of_ble_eq_true rfl⟩), hts _ im_X6_total, hts _ se_X6_total⟩ (sg_wV (q0 := 33) hK hP hD [33, 34, 35, 36, 37, 38, 39, 40] (by decide) rfl rfl rfl rfl) rfl rfl hl.1 rfl (lv_room (Nat.le_of_ble_eq_true rfl)) dL_law_322 ⟨hce, hsl⟩) hP hD hS [33, 34, 35, 36, 37, 38, 39, 40] rfl (fun _ => rfl) (by decide) (fun _ => rfl) (fun r322 u322 H locs hw322 hP hD hS => ?_)
    subst hw322
    refine ci_same (tgt := 607) hx hb dL_law_325 rfl ?_
    exact kk _ _ ⟨ord, ns, e, ln, wd, KO, KU, fL, fR, f1, f2, f3, fe, x0, x1, cf, cg, xf, yf, nI u322.1, y0, y1, ge, gL, gW, u322.2.1, u322.2.2.1, u322.2.2.2, lim, hP, hD, hS, hpu⟩
set_option maxHeartbeats 4000000 in
set_option maxRecDepth 100000 in
theorem lw_c8 {pZ : Program} {l : Launch} {eZ : Env} {sZ : State} {mZ : MethodId} {belowZ : List Frame} {methZ : Method} {cZ : Code} {b L : Nat} {xs : Nat → Int32} {H : Heap} {locs : List Loc} {ls : Array Slot} {Q : State → Prop} {A : Nat → Prop} {D : va_G} {cI cO : ClassId} {z mz : Nat} {ra ax am : Nat → Nat} {i cells slots : Nat} (hce : cells ≤ 600000) (hsl : slots ≤ 7302250) (hx : pZ.tables.exec = Jvm.exec) (hb : cZ.code = cL_law) (hml : cZ.maxLocals = 4) (hown : sZ.vm.findClass RL = some mZ.cls) (hts : ∀ wZ ∈ sgT, wZ.before #[Value.ref b] sZ = true) (hX : va_X b L xs sZ sZ.heap) (hbl : b < sZ.heap.size) (hbA : ¬ A b) (hL : L ≤ 2560) (hK : sgK D cI cO sZ) (hi : i + 5 ≤ L) (hl : lv_has ls 4 [(3, .int (nI i)), (2, .ref mz), (1, .ref z), (0, .ref b)]) (hI : lwI D cI cO A sZ.heap z mz ra ax am H locs) (kk : ∀ (H : Heap) (locs : List Loc), lwI D cI cO A sZ.heap z mz ra ax am H locs → W pZ l eZ room_1 sZ mZ #[Value.ref b] belowZ methZ cZ H locs cells slots Q (F0 mZ 607 ls [])) : W pZ l eZ room_1 sZ mZ #[Value.ref b] belowZ methZ cZ H locs cells slots Q (F0 mZ 330 ls []) := by
  obtain ⟨ord, ns, e, ln, wd, KO, KU, fL, fR, f1, f2, f3, fe, x0, x1, cf, cg, xf, yf, ev, y0, y1, ge, gL, gW, ga, gb, gf, lim, hP, hD, hS, hpu⟩ := hI
  have hpu0 := hpu
  obtain ⟨⟨ho, hns, hE, hKO, hKU⟩, hSt, hMm, hH, ⟨hfe, hge⟩, hlO, hlU⟩ := hpu0
  obtain ⟨hL0, hW⟩ := hSt ns (Nat.le_refl _)
  obtain ⟨hG0, hl8, hGW, hWd⟩ := hMm ns (Nat.le_refl _)
  have hB := rwS_bd hns hMm
  have hF : sgFlat (rwS ln wd ns) := sgRaw_flat ln wd ns
  by_cases hv : (1 ≤ (xs (i + 1)).toInt ∧ (xs (i + 1)).toInt ≤ 3) ∧ ((xs (i + 1)).toInt < 2 ∨ (0 ≤ (xs (i + 3)).toInt ∧ (xs (i + 3)).toInt < 7)) ∧ ((xs (i + 1)).toInt < 3 ∨ (0 ≤ (xs (i + 2)).toInt ∧ (xs (i + 2)).toInt < 7))
  · obtain ⟨k, hk, ek⟩ := sg_num (x := xs (i + 1)) (lo := 1) (hi := 3) (by omega) (by omega)
    have hkI := sg_n (n := k) (by omega)
    have hkx : (xs (i + 1)).toInt = (k : Int) := by rw [ek]; exact hkI
    obtain ⟨bb, hbb, hy⟩ := sg_sym (k := k) (y := xs (i + 3)) (by omega)
    obtain ⟨aa, ha, hz⟩ := sg_sym3 (k := k) (y := xs (i + 2)) (by omega)
    refine lv_aload_n hx hb dL_law_330 rfl (lv_at hl 2 rfl) ?_
    refine lv_aload_n hx hb dL_law_331 rfl (lv_at hl 3 rfl) ?_
    refine lv_iload_n hx hb dL_law_332 rfl (lv_at hl 0 rfl) ?_
    refine lv_iconst (v := nI 1) hx hb dL_law_333 (by decide) ?_
    refine n_iadd hx hb dL_law_334 ?_
    refine n_sld (v := nI k) hx hb hX hbl hbA hS (by omega) (by omega) ek dL_law_335 ?_
    refine lv_aload_n hx hb dL_law_336 rfl (lv_at hl 3 rfl) ?_
    refine lv_iload_n hx hb dL_law_337 rfl (lv_at hl 0 rfl) ?_
    refine lv_iconst (v := nI 2) hx hb dL_law_338 (by decide) ?_
    refine n_iadd hx hb dL_law_339 ?_
    refine n_sld (v := xs (i + 2)) hx hb hX hbl hbA hS (by omega) (by omega) rfl dL_law_340 ?_
    refine lv_aload_n hx hb dL_law_341 rfl (lv_at hl 3 rfl) ?_
    refine lv_iload_n hx hb dL_law_342 rfl (lv_at hl 0 rfl) ?_
    refine lv_iconst (v := nI 3) hx hb dL_law_343 (by decide) ?_
    refine n_iadd hx hb dL_law_344 ?_
    refine n_sld (v := xs (i + 3)) hx hb hX hbl hbA hS (by omega) (by omega) rfl dL_law_345 ?_
    refine sg_callRi (va_runV (As := [.int (nI k), .int (xs (i + 2)), .int (xs (i + 3))]) (rest := []) (C := RX5) ⟨hx, hb, hml, hown, hts⟩ (c_X5_kinds l D cI cO z (ax 0) (ax 3) (ax 7) (ax 8) (ax 9) (ax 14) (ax 19) (ax 21) (ax 4) (ax 5) (ax 6) ord f1 f2 f3 (rwS ln wd ns) k (xs (i + 2)) (xs (i + 3)) aa bb hH hF hB (by omega) (by omega) hy hz (by omega) (by omega)) ⟨(sg_cB 3 hts mcX5_kinds ml_L_50 in_X5 rfl rfl (by decide +kernel) ⟨Nat.le_of_ble_eq_true rfl, Nat.le_of_ble_eq_true rfl⟩), hts _ im_X5_kinds, hts _ se_X5_kinds⟩ (sg_pV (q0 := 9) hK hP [9, 13, 14, 15, 16] rfl rfl rfl rfl) rfl rfl hl.1 rfl (lv_room (Nat.le_of_ble_eq_true rfl)) dL_law_346 ⟨hce, hsl⟩) ?_
    refine lv_aload_n hx hb dL_law_349 rfl (lv_at hl 1 rfl) ?_
    refine lv_aload_n hx hb dL_law_350 rfl (lv_at hl 3 rfl) ?_
    refine lv_iload_n hx hb dL_law_351 rfl (lv_at hl 0 rfl) ?_
    refine lv_iconst (v := nI 1) hx hb dL_law_352 (by decide) ?_
    refine n_iadd hx hb dL_law_353 ?_
    refine n_sld (v := nI k) hx hb hX hbl hbA hS (by omega) (by omega) ek dL_law_354 ?_
    refine lv_aload_n hx hb dL_law_355 rfl (lv_at hl 3 rfl) ?_
    refine lv_iload_n hx hb dL_law_356 rfl (lv_at hl 0 rfl) ?_
    refine lv_iconst (v := nI 2) hx hb dL_law_357 (by decide) ?_
    refine n_iadd hx hb dL_law_358 ?_
    refine n_sld (v := xs (i + 2)) hx hb hX hbl hbA hS (by omega) (by omega) rfl dL_law_359 ?_
    refine lv_aload_n hx hb dL_law_360 rfl (lv_at hl 3 rfl) ?_
    refine lv_iload_n hx hb dL_law_361 rfl (lv_at hl 0 rfl) ?_
    refine lv_iconst (v := nI 3) hx hb dL_law_362 (by decide) ?_
    refine n_iadd hx hb dL_law_363 ?_
    refine n_sld (v := xs (i + 3)) hx hb hX hbl hbA hS (by omega) (by omega) rfl dL_law_364 ?_
    refine sg_callWi (fun u365 => (rw9 ra cI fR ++ [(z, .inr (5, [.ref (ax 0), .ref (ax 3), .ref (ax 7), .ref (ax 8), .ref (ax 9), .ref (ax 14), .ref (ax 19), .ref (ax 21)])), ((ax 0), .inr (4, [.ref (ax 1), .ref (ax 2), .int (nI ns)])), ((ax 1), .inl (cO, 9, .inr (.inr (.inr (.inr (fun j => some (ra j))))))), ((ax 2), .inl (cI, 9, .inl fL)), ((ax 3), .inr (1, [.ref (ax 4), .ref (ax 5), .ref (ax 6), .int (nI ord)])), ((ax 4), .inl (cI, 7, .inl f1)), ((ax 5), .inl (cI, 49, .inl f2)), ((ax 6), .inl (cI, 343, .inl f3)), ((ax 7), .inl (cI, 4, .inl fe)), ((ax 8), .inr (0, [.long x0, .long x1])), ((ax 9), .inr (3, [.ref (ax 10), .ref (ax 12)])), ((ax 10), .inr (2, [.ref (ax 11)])), ((ax 11), .inl (cI, 9, .inl cf)), ((ax 12), .inr (2, [.ref (ax 13)])), ((ax 13), .inl (cI, 9, .inl cg)), ((ax 14), .inr (3, [.ref (ax 15), .ref (ax 17)])), ((ax 15), .inr (2, [.ref (ax 16)])), ((ax 16), .inl (cI, 9, .inl (dF KO))), ((ax 17), .inr (2, [.ref (ax 18)])), ((ax 18), .inl (cI, 9, .inl (dF KU))), ((ax 19), .inr (2, [.ref (ax 20)])), ((ax 20), .inl (cI, 18, .inl xf)), ((ax 21), .inr (2, [.ref (ax 22)])), ((ax 22), .inl (cI, 18, .inl yf)), (mz, .inr (6, [.int (nI ord), .ref (am 0), .int (nI ns), .ref (am 1), .ref (am 2), .int (nI u365.1), .ref (am 3), .ref (am 4), .ref (am 5), .long y0, .long y1, .ref (am 6)])), ((am 0), .inl (cI, 4, .inl ge)), ((am 1), .inl (cI, 9, .inl gL)), ((am 2), .inl (cI, 72, .inl gW)), ((am 3), .inl (cI, 72, .inl u365.2.1)), ((am 4), .inl (cI, 72, .inl u365.2.2.1)), ((am 5), .inl (cI, 72, .inl u365.2.2.2)), ((am 6), .inl (cI, 240, .inl lim))])) [(false, 0), (false, 1), (false, 2), (false, 3), (false, 4), (false, 5), (false, 6), (false, 7), (false, 8), (false, 9), (false, 10), (false, 11), (false, 12), (false, 13), (false, 14), (false, 15), (false, 16), (false, 17), (false, 18), (false, 19), (false, 20), (false, 21), (false, 22), (false, 23), (false, 24), (false, 25), (false, 26), (false, 27), (false, 28), (false, 29), (false, 30), (false, 31), (false, 32), (true, 0), (true, 1), (true, 2), (true, 3), (true, 4), (true, 5), (true, 6), (true, 7)] (va_runV (As := [.int (nI k), .int (xs (i + 2)), .int (xs (i + 3))]) (rest := [.int (nI (sgKin (rwS ln wd ns) ord k aa bb 6))]) (C := RX6) ⟨hx, hb, hml, hown, hts⟩ (c_X6_kinds l D cI cO mz (am 0) (am 1) (am 2) (am 3) (am 4) (am 5) (am 6) ord ns ev y0 y1 ge gL gW ga gb gf lim ln wd k (xs (i + 2)) (xs (i + 3)) aa bb (by omega) hMm (by omega) (by omega) hy hz (by omega) (by omega)) ⟨(sg_cB 3 hts mcX6_kinds ml_L_53 in_X6 rfl rfl (by decide +kernel) ⟨Nat.le_of_ble_eq_true rfl, Nat.le_of_ble_eq_true rfl⟩), hts _ im_X6_kinds, hts _ se_X6_kinds⟩ (sg_wV (q0 := 33) hK hP hD [33, 34, 35, 36, 37, 38, 39, 40] (by decide) rfl rfl rfl rfl) rfl rfl hl.1 rfl (lv_room (Nat.le_of_ble_eq_true rfl)) dL_law_365 ⟨hce, hsl⟩) hP hD hS [33, 34, 35, 36, 37, 38, 39, 40] rfl (fun _ => rfl) (by decide) (fun _ => rfl) (fun r365 u365 H locs hw365 hP hD hS => ?_)
    subst hw365
    refine ci_same (tgt := 607) hx hb dL_law_368 rfl ?_
    exact kk _ _ ⟨ord, ns, e, ln, wd, KO, KU, fL, fR, f1, f2, f3, fe, x0, x1, cf, cg, xf, yf, nI u365.1, y0, y1, ge, gL, gW, u365.2.1, u365.2.2.1, u365.2.2.2, lim, hP, hD, hS, hpu⟩
  · skip
    refine lv_aload_n hx hb dL_law_330 rfl (lv_at hl 2 rfl) ?_
    refine lv_aload_n hx hb dL_law_331 rfl (lv_at hl 3 rfl) ?_
    refine lv_iload_n hx hb dL_law_332 rfl (lv_at hl 0 rfl) ?_
    refine lv_iconst (v := nI 1) hx hb dL_law_333 (by decide) ?_
    refine n_iadd hx hb dL_law_334 ?_
    refine n_sld (v := xs (i + 1)) hx hb hX hbl hbA hS (by omega) (by omega) rfl dL_law_335 ?_
    refine lv_aload_n hx hb dL_law_336 rfl (lv_at hl 3 rfl) ?_
    refine lv_iload_n hx hb dL_law_337 rfl (lv_at hl 0 rfl) ?_
    refine lv_iconst (v := nI 2) hx hb dL_law_338 (by decide) ?_
    refine n_iadd hx hb dL_law_339 ?_
    refine n_sld (v := xs (i + 2)) hx hb hX hbl hbA hS (by omega) (by omega) rfl dL_law_340 ?_
    refine lv_aload_n hx hb dL_law_341 rfl (lv_at hl 3 rfl) ?_
    refine lv_iload_n hx hb dL_law_342 rfl (lv_at hl 0 rfl) ?_
    refine lv_iconst (v := nI 3) hx hb dL_law_343 (by decide) ?_
    refine n_iadd hx hb dL_law_344 ?_
    refine n_sld (v := xs (i + 3)) hx hb hX hbl hbA hS (by omega) (by omega) rfl dL_law_345 ?_
    refine sg_callRi (va_runV (As := [.int (xs (i + 1)), .int (xs (i + 2)), .int (xs (i + 3))]) (rest := []) (C := RX5) ⟨hx, hb, hml, hown, hts⟩ (c_kinds_bad l D cI cO z (ax 0) (ax 3) (ax 7) (ax 8) (ax 9) (ax 14) (ax 19) (ax 21) (xs (i + 1)) (xs (i + 2)) (xs (i + 3)) (by omega)) ⟨(sg_cB 3 hts mcX5_kinds ml_L_50 in_X5 rfl rfl (by decide +kernel) ⟨Nat.le_of_ble_eq_true rfl, Nat.le_of_ble_eq_true rfl⟩), hts _ im_X5_kinds, hts _ se_X5_kinds⟩ (sg_pV (q0 := 9) hK hP [9] rfl rfl rfl rfl) rfl rfl hl.1 rfl (lv_room (Nat.le_of_ble_eq_true rfl)) dL_law_346 ⟨hce, hsl⟩) ?_
    refine lv_aload_n hx hb dL_law_349 rfl (lv_at hl 1 rfl) ?_
    refine lv_aload_n hx hb dL_law_350 rfl (lv_at hl 3 rfl) ?_
    refine lv_iload_n hx hb dL_law_351 rfl (lv_at hl 0 rfl) ?_
    refine lv_iconst (v := nI 1) hx hb dL_law_352 (by decide) ?_
    refine n_iadd hx hb dL_law_353 ?_
    refine n_sld (v := xs (i + 1)) hx hb hX hbl hbA hS (by omega) (by omega) rfl dL_law_354 ?_
    refine lv_aload_n hx hb dL_law_355 rfl (lv_at hl 3 rfl) ?_
    refine lv_iload_n hx hb dL_law_356 rfl (lv_at hl 0 rfl) ?_
    refine lv_iconst (v := nI 2) hx hb dL_law_357 (by decide) ?_
    refine n_iadd hx hb dL_law_358 ?_
    refine n_sld (v := xs (i + 2)) hx hb hX hbl hbA hS (by omega) (by omega) rfl dL_law_359 ?_
    refine lv_aload_n hx hb dL_law_360 rfl (lv_at hl 3 rfl) ?_
    refine lv_iload_n hx hb dL_law_361 rfl (lv_at hl 0 rfl) ?_
    refine lv_iconst (v := nI 3) hx hb dL_law_362 (by decide) ?_
    refine n_iadd hx hb dL_law_363 ?_
    refine n_sld (v := xs (i + 3)) hx hb hX hbl hbA hS (by omega) (by omega) rfl dL_law_364 ?_
    refine sg_callWi (fun u365 => (rw9 ra cI fR ++ [(z, .inr (5, [.ref (ax 0), .ref (ax 3), .ref (ax 7), .ref (ax 8), .ref (ax 9), .ref (ax 14), .ref (ax 19), .ref (ax 21)])), ((ax 0), .inr (4, [.ref (ax 1), .ref (ax 2), .int (nI ns)])), ((ax 1), .inl (cO, 9, .inr (.inr (.inr (.inr (fun j => some (ra j))))))), ((ax 2), .inl (cI, 9, .inl fL)), ((ax 3), .inr (1, [.ref (ax 4), .ref (ax 5), .ref (ax 6), .int (nI ord)])), ((ax 4), .inl (cI, 7, .inl f1)), ((ax 5), .inl (cI, 49, .inl f2)), ((ax 6), .inl (cI, 343, .inl f3)), ((ax 7), .inl (cI, 4, .inl fe)), ((ax 8), .inr (0, [.long x0, .long x1])), ((ax 9), .inr (3, [.ref (ax 10), .ref (ax 12)])), ((ax 10), .inr (2, [.ref (ax 11)])), ((ax 11), .inl (cI, 9, .inl cf)), ((ax 12), .inr (2, [.ref (ax 13)])), ((ax 13), .inl (cI, 9, .inl cg)), ((ax 14), .inr (3, [.ref (ax 15), .ref (ax 17)])), ((ax 15), .inr (2, [.ref (ax 16)])), ((ax 16), .inl (cI, 9, .inl (dF KO))), ((ax 17), .inr (2, [.ref (ax 18)])), ((ax 18), .inl (cI, 9, .inl (dF KU))), ((ax 19), .inr (2, [.ref (ax 20)])), ((ax 20), .inl (cI, 18, .inl xf)), ((ax 21), .inr (2, [.ref (ax 22)])), ((ax 22), .inl (cI, 18, .inl yf)), (mz, .inr (6, [.int (nI ord), .ref (am 0), .int (nI ns), .ref (am 1), .ref (am 2), .int (nI u365.1), .ref (am 3), .ref (am 4), .ref (am 5), .long y0, .long y1, .ref (am 6)])), ((am 0), .inl (cI, 4, .inl ge)), ((am 1), .inl (cI, 9, .inl gL)), ((am 2), .inl (cI, 72, .inl gW)), ((am 3), .inl (cI, 72, .inl u365.2.1)), ((am 4), .inl (cI, 72, .inl u365.2.2.1)), ((am 5), .inl (cI, 72, .inl u365.2.2.2)), ((am 6), .inl (cI, 240, .inl lim))])) [(false, 0), (false, 1), (false, 2), (false, 3), (false, 4), (false, 5), (false, 6), (false, 7), (false, 8), (false, 9), (false, 10), (false, 11), (false, 12), (false, 13), (false, 14), (false, 15), (false, 16), (false, 17), (false, 18), (false, 19), (false, 20), (false, 21), (false, 22), (false, 23), (false, 24), (false, 25), (false, 26), (false, 27), (false, 28), (false, 29), (false, 30), (false, 31), (false, 32), (true, 0), (true, 1), (true, 2), (true, 3), (true, 4), (true, 5), (true, 6), (true, 7)] (va_runV (As := [.int (xs (i + 1)), .int (xs (i + 2)), .int (xs (i + 3))]) (rest := [.int (nI 0)]) (C := RX6) ⟨hx, hb, hml, hown, hts⟩ (r_kinds_bad l D cI cO mz (am 0) (am 1) (am 2) (am 3) (am 4) (am 5) (am 6) ord ns ev y0 y1 ge gL gW ga gb gf lim ln wd (xs (i + 1)) (xs (i + 2)) (xs (i + 3)) (by omega) hMm (by omega)) ⟨(sg_cB 3 hts mcX6_kinds ml_L_53 in_X6 rfl rfl (by decide +kernel) ⟨Nat.le_of_ble_eq_true rfl, Nat.le_of_ble_eq_true rfl⟩), hts _ im_X6_kinds, hts _ se_X6_kinds⟩ (sg_wV (q0 := 33) hK hP hD [33, 34, 35, 36, 37, 38, 39, 40] (by decide) rfl rfl rfl rfl) rfl rfl hl.1 rfl (lv_room (Nat.le_of_ble_eq_true rfl)) dL_law_365 ⟨hce, hsl⟩) hP hD hS [33, 34, 35, 36, 37, 38, 39, 40] rfl (fun _ => rfl) (by decide) (fun _ => rfl) (fun r365 u365 H locs hw365 hP hD hS => ?_)
    subst hw365
    refine ci_same (tgt := 607) hx hb dL_law_368 rfl ?_
    exact kk _ _ ⟨ord, ns, e, ln, wd, KO, KU, fL, fR, f1, f2, f3, fe, x0, x1, cf, cg, xf, yf, nI u365.1, y0, y1, ge, gL, gW, u365.2.1, u365.2.2.1, u365.2.2.2, lim, hP, hD, hS, hpu⟩
set_option maxHeartbeats 4000000 in
set_option maxRecDepth 100000 in
theorem lw_c9 {pZ : Program} {l : Launch} {eZ : Env} {sZ : State} {mZ : MethodId} {belowZ : List Frame} {methZ : Method} {cZ : Code} {b L : Nat} {xs : Nat → Int32} {H : Heap} {locs : List Loc} {ls : Array Slot} {Q : State → Prop} {A : Nat → Prop} {D : va_G} {cI cO : ClassId} {z mz : Nat} {ra ax am : Nat → Nat} {i cells slots : Nat} (hce : cells ≤ 600000) (hsl : slots ≤ 7302250) (hx : pZ.tables.exec = Jvm.exec) (hb : cZ.code = cL_law) (hml : cZ.maxLocals = 4) (hown : sZ.vm.findClass RL = some mZ.cls) (hts : ∀ wZ ∈ sgT, wZ.before #[Value.ref b] sZ = true) (hX : va_X b L xs sZ sZ.heap) (hbl : b < sZ.heap.size) (hbA : ¬ A b) (hL : L ≤ 2560) (hK : sgK D cI cO sZ) (hi : i + 5 ≤ L) (hl : lv_has ls 4 [(3, .int (nI i)), (2, .ref mz), (1, .ref z), (0, .ref b)]) (hI : lwI D cI cO A sZ.heap z mz ra ax am H locs) (kk : ∀ (H : Heap) (locs : List Loc), lwI D cI cO A sZ.heap z mz ra ax am H locs → W pZ l eZ room_1 sZ mZ #[Value.ref b] belowZ methZ cZ H locs cells slots Q (F0 mZ 607 ls [])) : W pZ l eZ room_1 sZ mZ #[Value.ref b] belowZ methZ cZ H locs cells slots Q (F0 mZ 373 ls []) := by
  obtain ⟨ord, ns, e, ln, wd, KO, KU, fL, fR, f1, f2, f3, fe, x0, x1, cf, cg, xf, yf, ev, y0, y1, ge, gL, gW, ga, gb, gf, lim, hP, hD, hS, hpu⟩ := hI
  have hpu0 := hpu
  obtain ⟨⟨ho, hns, hE, hKO, hKU⟩, hSt, hMm, hH, ⟨hfe, hge⟩, hlO, hlU⟩ := hpu0
  obtain ⟨hL0, hW⟩ := hSt ns (Nat.le_refl _)
  obtain ⟨hG0, hl8, hGW, hWd⟩ := hMm ns (Nat.le_refl _)
  have hB := rwS_bd hns hMm
  have hF : sgFlat (rwS ln wd ns) := sgRaw_flat ln wd ns
  by_cases hv : 1 ≤ (xs (i + 1)).toInt ∧ (xs (i + 1)).toInt ≤ 3
  · obtain ⟨k, hk, ek⟩ := sg_num (x := xs (i + 1)) (lo := 1) (hi := 3) (by omega) (by omega)
    refine lv_aload_n hx hb dL_law_373 rfl (lv_at hl 2 rfl) ?_
    refine lv_aload_n hx hb dL_law_374 rfl (lv_at hl 3 rfl) ?_
    refine lv_iload_n hx hb dL_law_375 rfl (lv_at hl 0 rfl) ?_
    refine lv_iconst (v := nI 1) hx hb dL_law_376 (by decide) ?_
    refine n_iadd hx hb dL_law_377 ?_
    refine n_sld (v := nI k) hx hb hX hbl hbA hS (by omega) (by omega) ek dL_law_378 ?_
    refine sg_callRi (va_runV (As := [.int (nI k)]) (rest := []) (C := RX5) ⟨hx, hb, hml, hown, hts⟩ (c_X5_grams l D cI cO z (ax 0) (ax 3) (ax 7) (ax 8) (ax 9) (ax 14) (ax 19) (ax 21) (ax 4) (ax 5) (ax 6) ord f1 f2 f3 (rwS ln wd ns) k hH hB (by omega) (by omega)) ⟨(sg_cB 1 hts mcX5_grams ml_L_54 in_X5 rfl rfl (by decide +kernel) ⟨Nat.le_of_ble_eq_true rfl, Nat.le_of_ble_eq_true rfl⟩), hts _ im_X5_grams, hts _ se_X5_grams⟩ (sg_pV (q0 := 9) hK hP [9, 13, 14, 15, 16] rfl rfl rfl rfl) rfl rfl hl.1 rfl (lv_room (Nat.le_of_ble_eq_true rfl)) dL_law_379 ⟨hce, hsl⟩) ?_
    refine lv_aload_n hx hb dL_law_382 rfl (lv_at hl 1 rfl) ?_
    refine lv_aload_n hx hb dL_law_383 rfl (lv_at hl 3 rfl) ?_
    refine lv_iload_n hx hb dL_law_384 rfl (lv_at hl 0 rfl) ?_
    refine lv_iconst (v := nI 1) hx hb dL_law_385 (by decide) ?_
    refine n_iadd hx hb dL_law_386 ?_
    refine n_sld (v := nI k) hx hb hX hbl hbA hS (by omega) (by omega) ek dL_law_387 ?_
    refine sg_callWi (fun u388 => (rw9 ra cI fR ++ [(z, .inr (5, [.ref (ax 0), .ref (ax 3), .ref (ax 7), .ref (ax 8), .ref (ax 9), .ref (ax 14), .ref (ax 19), .ref (ax 21)])), ((ax 0), .inr (4, [.ref (ax 1), .ref (ax 2), .int (nI ns)])), ((ax 1), .inl (cO, 9, .inr (.inr (.inr (.inr (fun j => some (ra j))))))), ((ax 2), .inl (cI, 9, .inl fL)), ((ax 3), .inr (1, [.ref (ax 4), .ref (ax 5), .ref (ax 6), .int (nI ord)])), ((ax 4), .inl (cI, 7, .inl f1)), ((ax 5), .inl (cI, 49, .inl f2)), ((ax 6), .inl (cI, 343, .inl f3)), ((ax 7), .inl (cI, 4, .inl fe)), ((ax 8), .inr (0, [.long x0, .long x1])), ((ax 9), .inr (3, [.ref (ax 10), .ref (ax 12)])), ((ax 10), .inr (2, [.ref (ax 11)])), ((ax 11), .inl (cI, 9, .inl cf)), ((ax 12), .inr (2, [.ref (ax 13)])), ((ax 13), .inl (cI, 9, .inl cg)), ((ax 14), .inr (3, [.ref (ax 15), .ref (ax 17)])), ((ax 15), .inr (2, [.ref (ax 16)])), ((ax 16), .inl (cI, 9, .inl (dF KO))), ((ax 17), .inr (2, [.ref (ax 18)])), ((ax 18), .inl (cI, 9, .inl (dF KU))), ((ax 19), .inr (2, [.ref (ax 20)])), ((ax 20), .inl (cI, 18, .inl xf)), ((ax 21), .inr (2, [.ref (ax 22)])), ((ax 22), .inl (cI, 18, .inl yf)), (mz, .inr (6, [.int (nI ord), .ref (am 0), .int (nI ns), .ref (am 1), .ref (am 2), .int (nI u388.1), .ref (am 3), .ref (am 4), .ref (am 5), .long y0, .long y1, .ref (am 6)])), ((am 0), .inl (cI, 4, .inl ge)), ((am 1), .inl (cI, 9, .inl gL)), ((am 2), .inl (cI, 72, .inl gW)), ((am 3), .inl (cI, 72, .inl u388.2.1)), ((am 4), .inl (cI, 72, .inl u388.2.2.1)), ((am 5), .inl (cI, 72, .inl u388.2.2.2)), ((am 6), .inl (cI, 240, .inl lim))])) [(false, 0), (false, 1), (false, 2), (false, 3), (false, 4), (false, 5), (false, 6), (false, 7), (false, 8), (false, 9), (false, 10), (false, 11), (false, 12), (false, 13), (false, 14), (false, 15), (false, 16), (false, 17), (false, 18), (false, 19), (false, 20), (false, 21), (false, 22), (false, 23), (false, 24), (false, 25), (false, 26), (false, 27), (false, 28), (false, 29), (false, 30), (false, 31), (false, 32), (true, 0), (true, 1), (true, 2), (true, 3), (true, 4), (true, 5), (true, 6), (true, 7)] (va_runV (As := [.int (nI k)]) (rest := [.int (nI (sgG (rwS ln wd ns) ord k (sgAll k)))]) (C := RX6) ⟨hx, hb, hml, hown, hts⟩ (c_X6_grams l D cI cO mz (am 0) (am 1) (am 2) (am 3) (am 4) (am 5) (am 6) ord ns ev y0 y1 ge gL gW ga gb gf lim ln wd k (by omega) hMm (by omega) (by omega)) ⟨(sg_cB 1 hts mcX6_grams ml_L_58 in_X6 rfl rfl (by decide +kernel) ⟨Nat.le_of_ble_eq_true rfl, Nat.le_of_ble_eq_true rfl⟩), hts _ im_X6_grams, hts _ se_X6_grams⟩ (sg_wV (q0 := 33) hK hP hD [33, 34, 35, 36, 37, 38, 39, 40] (by decide) rfl rfl rfl rfl) rfl rfl hl.1 rfl (lv_room (Nat.le_of_ble_eq_true rfl)) dL_law_388 ⟨hce, hsl⟩) hP hD hS [33, 34, 35, 36, 37, 38, 39, 40] rfl (fun _ => rfl) (by decide) (fun _ => rfl) (fun r388 u388 H locs hw388 hP hD hS => ?_)
    subst hw388
    refine ci_same (tgt := 607) hx hb dL_law_391 rfl ?_
    exact kk _ _ ⟨ord, ns, e, ln, wd, KO, KU, fL, fR, f1, f2, f3, fe, x0, x1, cf, cg, xf, yf, nI u388.1, y0, y1, ge, gL, gW, u388.2.1, u388.2.2.1, u388.2.2.2, lim, hP, hD, hS, hpu⟩
  · skip
    refine lv_aload_n hx hb dL_law_373 rfl (lv_at hl 2 rfl) ?_
    refine lv_aload_n hx hb dL_law_374 rfl (lv_at hl 3 rfl) ?_
    refine lv_iload_n hx hb dL_law_375 rfl (lv_at hl 0 rfl) ?_
    refine lv_iconst (v := nI 1) hx hb dL_law_376 (by decide) ?_
    refine n_iadd hx hb dL_law_377 ?_
    refine n_sld (v := xs (i + 1)) hx hb hX hbl hbA hS (by omega) (by omega) rfl dL_law_378 ?_
    refine sg_callRi (va_runV (As := [.int (xs (i + 1))]) (rest := []) (C := RX5) ⟨hx, hb, hml, hown, hts⟩ (c_grams_bad l D cI cO z (ax 0) (ax 3) (ax 7) (ax 8) (ax 9) (ax 14) (ax 19) (ax 21) (xs (i + 1)) (by omega)) ⟨(sg_cB 1 hts mcX5_grams ml_L_54 in_X5 rfl rfl (by decide +kernel) ⟨Nat.le_of_ble_eq_true rfl, Nat.le_of_ble_eq_true rfl⟩), hts _ im_X5_grams, hts _ se_X5_grams⟩ (sg_pV (q0 := 9) hK hP [9] rfl rfl rfl rfl) rfl rfl hl.1 rfl (lv_room (Nat.le_of_ble_eq_true rfl)) dL_law_379 ⟨hce, hsl⟩) ?_
    refine lv_aload_n hx hb dL_law_382 rfl (lv_at hl 1 rfl) ?_
    refine lv_aload_n hx hb dL_law_383 rfl (lv_at hl 3 rfl) ?_
    refine lv_iload_n hx hb dL_law_384 rfl (lv_at hl 0 rfl) ?_
    refine lv_iconst (v := nI 1) hx hb dL_law_385 (by decide) ?_
    refine n_iadd hx hb dL_law_386 ?_
    refine n_sld (v := xs (i + 1)) hx hb hX hbl hbA hS (by omega) (by omega) rfl dL_law_387 ?_
    refine sg_callWi (fun u388 => (rw9 ra cI fR ++ [(z, .inr (5, [.ref (ax 0), .ref (ax 3), .ref (ax 7), .ref (ax 8), .ref (ax 9), .ref (ax 14), .ref (ax 19), .ref (ax 21)])), ((ax 0), .inr (4, [.ref (ax 1), .ref (ax 2), .int (nI ns)])), ((ax 1), .inl (cO, 9, .inr (.inr (.inr (.inr (fun j => some (ra j))))))), ((ax 2), .inl (cI, 9, .inl fL)), ((ax 3), .inr (1, [.ref (ax 4), .ref (ax 5), .ref (ax 6), .int (nI ord)])), ((ax 4), .inl (cI, 7, .inl f1)), ((ax 5), .inl (cI, 49, .inl f2)), ((ax 6), .inl (cI, 343, .inl f3)), ((ax 7), .inl (cI, 4, .inl fe)), ((ax 8), .inr (0, [.long x0, .long x1])), ((ax 9), .inr (3, [.ref (ax 10), .ref (ax 12)])), ((ax 10), .inr (2, [.ref (ax 11)])), ((ax 11), .inl (cI, 9, .inl cf)), ((ax 12), .inr (2, [.ref (ax 13)])), ((ax 13), .inl (cI, 9, .inl cg)), ((ax 14), .inr (3, [.ref (ax 15), .ref (ax 17)])), ((ax 15), .inr (2, [.ref (ax 16)])), ((ax 16), .inl (cI, 9, .inl (dF KO))), ((ax 17), .inr (2, [.ref (ax 18)])), ((ax 18), .inl (cI, 9, .inl (dF KU))), ((ax 19), .inr (2, [.ref (ax 20)])), ((ax 20), .inl (cI, 18, .inl xf)), ((ax 21), .inr (2, [.ref (ax 22)])), ((ax 22), .inl (cI, 18, .inl yf)), (mz, .inr (6, [.int (nI ord), .ref (am 0), .int (nI ns), .ref (am 1), .ref (am 2), .int (nI u388.1), .ref (am 3), .ref (am 4), .ref (am 5), .long y0, .long y1, .ref (am 6)])), ((am 0), .inl (cI, 4, .inl ge)), ((am 1), .inl (cI, 9, .inl gL)), ((am 2), .inl (cI, 72, .inl gW)), ((am 3), .inl (cI, 72, .inl u388.2.1)), ((am 4), .inl (cI, 72, .inl u388.2.2.1)), ((am 5), .inl (cI, 72, .inl u388.2.2.2)), ((am 6), .inl (cI, 240, .inl lim))])) [(false, 0), (false, 1), (false, 2), (false, 3), (false, 4), (false, 5), (false, 6), (false, 7), (false, 8), (false, 9), (false, 10), (false, 11), (false, 12), (false, 13), (false, 14), (false, 15), (false, 16), (false, 17), (false, 18), (false, 19), (false, 20), (false, 21), (false, 22), (false, 23), (false, 24), (false, 25), (false, 26), (false, 27), (false, 28), (false, 29), (false, 30), (false, 31), (false, 32), (true, 0), (true, 1), (true, 2), (true, 3), (true, 4), (true, 5), (true, 6), (true, 7)] (va_runV (As := [.int (xs (i + 1))]) (rest := [.int (-1)]) (C := RX6) ⟨hx, hb, hml, hown, hts⟩ (r_grams_bad l D cI cO mz (am 0) (am 1) (am 2) (am 3) (am 4) (am 5) (am 6) ord ns ev y0 y1 ge gL gW ga gb gf lim ln wd (xs (i + 1)) (by omega) hMm (by omega)) ⟨(sg_cB 1 hts mcX6_grams ml_L_58 in_X6 rfl rfl (by decide +kernel) ⟨Nat.le_of_ble_eq_true rfl, Nat.le_of_ble_eq_true rfl⟩), hts _ im_X6_grams, hts _ se_X6_grams⟩ (sg_wV (q0 := 33) hK hP hD [33, 34, 35, 36, 37, 38, 39, 40] (by decide) rfl rfl rfl rfl) rfl rfl hl.1 rfl (lv_room (Nat.le_of_ble_eq_true rfl)) dL_law_388 ⟨hce, hsl⟩) hP hD hS [33, 34, 35, 36, 37, 38, 39, 40] rfl (fun _ => rfl) (by decide) (fun _ => rfl) (fun r388 u388 H locs hw388 hP hD hS => ?_)
    subst hw388
    refine ci_same (tgt := 607) hx hb dL_law_391 rfl ?_
    exact kk _ _ ⟨ord, ns, e, ln, wd, KO, KU, fL, fR, f1, f2, f3, fe, x0, x1, cf, cg, xf, yf, nI u388.1, y0, y1, ge, gL, gW, u388.2.1, u388.2.2.1, u388.2.2.2, lim, hP, hD, hS, hpu⟩
set_option maxHeartbeats 4000000 in
set_option maxRecDepth 100000 in
theorem lw_c10 {pZ : Program} {l : Launch} {eZ : Env} {sZ : State} {mZ : MethodId} {belowZ : List Frame} {methZ : Method} {cZ : Code} {b L : Nat} {xs : Nat → Int32} {H : Heap} {locs : List Loc} {ls : Array Slot} {Q : State → Prop} {A : Nat → Prop} {D : va_G} {cI cO : ClassId} {z mz : Nat} {ra ax am : Nat → Nat} {i cells slots : Nat} (hce : cells ≤ 600000) (hsl : slots ≤ 7302250) (hx : pZ.tables.exec = Jvm.exec) (hb : cZ.code = cL_law) (hml : cZ.maxLocals = 4) (hown : sZ.vm.findClass RL = some mZ.cls) (hts : ∀ wZ ∈ sgT, wZ.before #[Value.ref b] sZ = true) (hX : va_X b L xs sZ sZ.heap) (hbl : b < sZ.heap.size) (hbA : ¬ A b) (hL : L ≤ 2560) (hK : sgK D cI cO sZ) (hi : i + 5 ≤ L) (hl : lv_has ls 4 [(3, .int (nI i)), (2, .ref mz), (1, .ref z), (0, .ref b)]) (hI : lwI D cI cO A sZ.heap z mz ra ax am H locs) (kk : ∀ (H : Heap) (locs : List Loc), lwI D cI cO A sZ.heap z mz ra ax am H locs → W pZ l eZ room_1 sZ mZ #[Value.ref b] belowZ methZ cZ H locs cells slots Q (F0 mZ 607 ls [])) : W pZ l eZ room_1 sZ mZ #[Value.ref b] belowZ methZ cZ H locs cells slots Q (F0 mZ 396 ls []) := by
  obtain ⟨ord, ns, e, ln, wd, KO, KU, fL, fR, f1, f2, f3, fe, x0, x1, cf, cg, xf, yf, ev, y0, y1, ge, gL, gW, ga, gb, gf, lim, hP, hD, hS, hpu⟩ := hI
  have hpu0 := hpu
  obtain ⟨⟨ho, hns, hE, hKO, hKU⟩, hSt, hMm, hH, ⟨hfe, hge⟩, hlO, hlU⟩ := hpu0
  obtain ⟨hL0, hW⟩ := hSt ns (Nat.le_refl _)
  obtain ⟨hG0, hl8, hGW, hWd⟩ := hMm ns (Nat.le_refl _)
  have hB := rwS_bd hns hMm
  have hF : sgFlat (rwS ln wd ns) := sgRaw_flat ln wd ns
  by_cases hv : (1 ≤ (xs (i + 1)).toInt ∧ (xs (i + 1)).toInt ≤ 3) ∧ 0 ≤ (xs (i + 2)).toInt
  · obtain ⟨k, hk, ek⟩ := sg_num (x := xs (i + 1)) (lo := 1) (hi := 3) (by omega) (by omega)
    refine lv_aload_n hx hb dL_law_396 rfl (lv_at hl 2 rfl) ?_
    refine lv_aload_n hx hb dL_law_397 rfl (lv_at hl 3 rfl) ?_
    refine lv_iload_n hx hb dL_law_398 rfl (lv_at hl 0 rfl) ?_
    refine lv_iconst (v := nI 1) hx hb dL_law_399 (by decide) ?_
    refine n_iadd hx hb dL_law_400 ?_
    refine n_sld (v := nI k) hx hb hX hbl hbA hS (by omega) (by omega) ek dL_law_401 ?_
    refine lv_aload_n hx hb dL_law_402 rfl (lv_at hl 3 rfl) ?_
    refine lv_iload_n hx hb dL_law_403 rfl (lv_at hl 0 rfl) ?_
    refine lv_iconst (v := nI 2) hx hb dL_law_404 (by decide) ?_
    refine n_iadd hx hb dL_law_405 ?_
    refine n_sld (v := xs (i + 2)) hx hb hX hbl hbA hS (by omega) (by omega) rfl dL_law_406 ?_
    refine sg_callRi (va_runV (As := [.int (nI k), .int (xs (i + 2))]) (rest := []) (C := RX5) ⟨hx, hb, hml, hown, hts⟩ (c_X5_gram l D cI cO z (ax 0) (ax 3) (ax 7) (ax 8) (ax 9) (ax 14) (ax 19) (ax 21) (ax 4) (ax 5) (ax 6) ord f1 f2 f3 (rwS ln wd ns) k (xs (i + 2)) hH hB (by omega) (by omega) (by omega)) ⟨(sg_cB 2 hts mcX5_gram ml_L_59 in_X5 rfl rfl (by decide +kernel) ⟨Nat.le_of_ble_eq_true rfl, Nat.le_of_ble_eq_true rfl⟩), hts _ im_X5_gram, hts _ se_X5_gram⟩ (sg_pV (q0 := 9) hK hP [9, 13, 14, 15, 16] rfl rfl rfl rfl) rfl rfl hl.1 rfl (lv_room (Nat.le_of_ble_eq_true rfl)) dL_law_407 ⟨hce, hsl⟩) ?_
    refine lv_aload_n hx hb dL_law_410 rfl (lv_at hl 1 rfl) ?_
    refine lv_aload_n hx hb dL_law_411 rfl (lv_at hl 3 rfl) ?_
    refine lv_iload_n hx hb dL_law_412 rfl (lv_at hl 0 rfl) ?_
    refine lv_iconst (v := nI 1) hx hb dL_law_413 (by decide) ?_
    refine n_iadd hx hb dL_law_414 ?_
    refine n_sld (v := nI k) hx hb hX hbl hbA hS (by omega) (by omega) ek dL_law_415 ?_
    refine lv_aload_n hx hb dL_law_416 rfl (lv_at hl 3 rfl) ?_
    refine lv_iload_n hx hb dL_law_417 rfl (lv_at hl 0 rfl) ?_
    refine lv_iconst (v := nI 2) hx hb dL_law_418 (by decide) ?_
    refine n_iadd hx hb dL_law_419 ?_
    refine n_sld (v := xs (i + 2)) hx hb hX hbl hbA hS (by omega) (by omega) rfl dL_law_420 ?_
    refine sg_callWi (fun u421 => (rw9 ra cI fR ++ [(z, .inr (5, [.ref (ax 0), .ref (ax 3), .ref (ax 7), .ref (ax 8), .ref (ax 9), .ref (ax 14), .ref (ax 19), .ref (ax 21)])), ((ax 0), .inr (4, [.ref (ax 1), .ref (ax 2), .int (nI ns)])), ((ax 1), .inl (cO, 9, .inr (.inr (.inr (.inr (fun j => some (ra j))))))), ((ax 2), .inl (cI, 9, .inl fL)), ((ax 3), .inr (1, [.ref (ax 4), .ref (ax 5), .ref (ax 6), .int (nI ord)])), ((ax 4), .inl (cI, 7, .inl f1)), ((ax 5), .inl (cI, 49, .inl f2)), ((ax 6), .inl (cI, 343, .inl f3)), ((ax 7), .inl (cI, 4, .inl fe)), ((ax 8), .inr (0, [.long x0, .long x1])), ((ax 9), .inr (3, [.ref (ax 10), .ref (ax 12)])), ((ax 10), .inr (2, [.ref (ax 11)])), ((ax 11), .inl (cI, 9, .inl cf)), ((ax 12), .inr (2, [.ref (ax 13)])), ((ax 13), .inl (cI, 9, .inl cg)), ((ax 14), .inr (3, [.ref (ax 15), .ref (ax 17)])), ((ax 15), .inr (2, [.ref (ax 16)])), ((ax 16), .inl (cI, 9, .inl (dF KO))), ((ax 17), .inr (2, [.ref (ax 18)])), ((ax 18), .inl (cI, 9, .inl (dF KU))), ((ax 19), .inr (2, [.ref (ax 20)])), ((ax 20), .inl (cI, 18, .inl xf)), ((ax 21), .inr (2, [.ref (ax 22)])), ((ax 22), .inl (cI, 18, .inl yf)), (mz, .inr (6, [.int (nI ord), .ref (am 0), .int (nI ns), .ref (am 1), .ref (am 2), .int (nI u421.1), .ref (am 3), .ref (am 4), .ref (am 5), .long y0, .long y1, .ref (am 6)])), ((am 0), .inl (cI, 4, .inl ge)), ((am 1), .inl (cI, 9, .inl gL)), ((am 2), .inl (cI, 72, .inl gW)), ((am 3), .inl (cI, 72, .inl u421.2.1)), ((am 4), .inl (cI, 72, .inl u421.2.2.1)), ((am 5), .inl (cI, 72, .inl u421.2.2.2)), ((am 6), .inl (cI, 240, .inl lim))])) [(false, 0), (false, 1), (false, 2), (false, 3), (false, 4), (false, 5), (false, 6), (false, 7), (false, 8), (false, 9), (false, 10), (false, 11), (false, 12), (false, 13), (false, 14), (false, 15), (false, 16), (false, 17), (false, 18), (false, 19), (false, 20), (false, 21), (false, 22), (false, 23), (false, 24), (false, 25), (false, 26), (false, 27), (false, 28), (false, 29), (false, 30), (false, 31), (false, 32), (true, 0), (true, 1), (true, 2), (true, 3), (true, 4), (true, 5), (true, 6), (true, 7)] (va_runV (As := [.int (nI k), .int (xs (i + 2))]) (rest := [.int (sgFd (rwS ln wd ns) ord k (xs (i + 2)) (sgAll k) 0 0)]) (C := RX6) ⟨hx, hb, hml, hown, hts⟩ (c_X6_gram l D cI cO mz (am 0) (am 1) (am 2) (am 3) (am 4) (am 5) (am 6) ord ns ev y0 y1 ge gL gW ga gb gf lim ln wd k (xs (i + 2)) (by omega) hMm (by omega) (by omega) (by omega)) ⟨(sg_cB 2 hts mcX6_gram ml_L_63 in_X6 rfl rfl (by decide +kernel) ⟨Nat.le_of_ble_eq_true rfl, Nat.le_of_ble_eq_true rfl⟩), hts _ im_X6_gram, hts _ se_X6_gram⟩ (sg_wV (q0 := 33) hK hP hD [33, 34, 35, 36, 37, 38, 39, 40] (by decide) rfl rfl rfl rfl) rfl rfl hl.1 rfl (lv_room (Nat.le_of_ble_eq_true rfl)) dL_law_421 ⟨hce, hsl⟩) hP hD hS [33, 34, 35, 36, 37, 38, 39, 40] rfl (fun _ => rfl) (by decide) (fun _ => rfl) (fun r421 u421 H locs hw421 hP hD hS => ?_)
    subst hw421
    refine ci_same (tgt := 607) hx hb dL_law_424 rfl ?_
    exact kk _ _ ⟨ord, ns, e, ln, wd, KO, KU, fL, fR, f1, f2, f3, fe, x0, x1, cf, cg, xf, yf, nI u421.1, y0, y1, ge, gL, gW, u421.2.1, u421.2.2.1, u421.2.2.2, lim, hP, hD, hS, hpu⟩
  · skip
    refine lv_aload_n hx hb dL_law_396 rfl (lv_at hl 2 rfl) ?_
    refine lv_aload_n hx hb dL_law_397 rfl (lv_at hl 3 rfl) ?_
    refine lv_iload_n hx hb dL_law_398 rfl (lv_at hl 0 rfl) ?_
    refine lv_iconst (v := nI 1) hx hb dL_law_399 (by decide) ?_
    refine n_iadd hx hb dL_law_400 ?_
    refine n_sld (v := xs (i + 1)) hx hb hX hbl hbA hS (by omega) (by omega) rfl dL_law_401 ?_
    refine lv_aload_n hx hb dL_law_402 rfl (lv_at hl 3 rfl) ?_
    refine lv_iload_n hx hb dL_law_403 rfl (lv_at hl 0 rfl) ?_
    refine lv_iconst (v := nI 2) hx hb dL_law_404 (by decide) ?_
    refine n_iadd hx hb dL_law_405 ?_
    refine n_sld (v := xs (i + 2)) hx hb hX hbl hbA hS (by omega) (by omega) rfl dL_law_406 ?_
    refine sg_callRi (va_runV (As := [.int (xs (i + 1)), .int (xs (i + 2))]) (rest := []) (C := RX5) ⟨hx, hb, hml, hown, hts⟩ (c_gram_bad l D cI cO z (ax 0) (ax 3) (ax 7) (ax 8) (ax 9) (ax 14) (ax 19) (ax 21) (xs (i + 1)) (xs (i + 2)) (by omega)) ⟨(sg_cB 2 hts mcX5_gram ml_L_59 in_X5 rfl rfl (by decide +kernel) ⟨Nat.le_of_ble_eq_true rfl, Nat.le_of_ble_eq_true rfl⟩), hts _ im_X5_gram, hts _ se_X5_gram⟩ (sg_pV (q0 := 9) hK hP [9] rfl rfl rfl rfl) rfl rfl hl.1 rfl (lv_room (Nat.le_of_ble_eq_true rfl)) dL_law_407 ⟨hce, hsl⟩) ?_
    refine lv_aload_n hx hb dL_law_410 rfl (lv_at hl 1 rfl) ?_
    refine lv_aload_n hx hb dL_law_411 rfl (lv_at hl 3 rfl) ?_
    refine lv_iload_n hx hb dL_law_412 rfl (lv_at hl 0 rfl) ?_
    refine lv_iconst (v := nI 1) hx hb dL_law_413 (by decide) ?_
    refine n_iadd hx hb dL_law_414 ?_
    refine n_sld (v := xs (i + 1)) hx hb hX hbl hbA hS (by omega) (by omega) rfl dL_law_415 ?_
    refine lv_aload_n hx hb dL_law_416 rfl (lv_at hl 3 rfl) ?_
    refine lv_iload_n hx hb dL_law_417 rfl (lv_at hl 0 rfl) ?_
    refine lv_iconst (v := nI 2) hx hb dL_law_418 (by decide) ?_
    refine n_iadd hx hb dL_law_419 ?_
    refine n_sld (v := xs (i + 2)) hx hb hX hbl hbA hS (by omega) (by omega) rfl dL_law_420 ?_
    refine sg_callWi (fun u421 => (rw9 ra cI fR ++ [(z, .inr (5, [.ref (ax 0), .ref (ax 3), .ref (ax 7), .ref (ax 8), .ref (ax 9), .ref (ax 14), .ref (ax 19), .ref (ax 21)])), ((ax 0), .inr (4, [.ref (ax 1), .ref (ax 2), .int (nI ns)])), ((ax 1), .inl (cO, 9, .inr (.inr (.inr (.inr (fun j => some (ra j))))))), ((ax 2), .inl (cI, 9, .inl fL)), ((ax 3), .inr (1, [.ref (ax 4), .ref (ax 5), .ref (ax 6), .int (nI ord)])), ((ax 4), .inl (cI, 7, .inl f1)), ((ax 5), .inl (cI, 49, .inl f2)), ((ax 6), .inl (cI, 343, .inl f3)), ((ax 7), .inl (cI, 4, .inl fe)), ((ax 8), .inr (0, [.long x0, .long x1])), ((ax 9), .inr (3, [.ref (ax 10), .ref (ax 12)])), ((ax 10), .inr (2, [.ref (ax 11)])), ((ax 11), .inl (cI, 9, .inl cf)), ((ax 12), .inr (2, [.ref (ax 13)])), ((ax 13), .inl (cI, 9, .inl cg)), ((ax 14), .inr (3, [.ref (ax 15), .ref (ax 17)])), ((ax 15), .inr (2, [.ref (ax 16)])), ((ax 16), .inl (cI, 9, .inl (dF KO))), ((ax 17), .inr (2, [.ref (ax 18)])), ((ax 18), .inl (cI, 9, .inl (dF KU))), ((ax 19), .inr (2, [.ref (ax 20)])), ((ax 20), .inl (cI, 18, .inl xf)), ((ax 21), .inr (2, [.ref (ax 22)])), ((ax 22), .inl (cI, 18, .inl yf)), (mz, .inr (6, [.int (nI ord), .ref (am 0), .int (nI ns), .ref (am 1), .ref (am 2), .int (nI u421.1), .ref (am 3), .ref (am 4), .ref (am 5), .long y0, .long y1, .ref (am 6)])), ((am 0), .inl (cI, 4, .inl ge)), ((am 1), .inl (cI, 9, .inl gL)), ((am 2), .inl (cI, 72, .inl gW)), ((am 3), .inl (cI, 72, .inl u421.2.1)), ((am 4), .inl (cI, 72, .inl u421.2.2.1)), ((am 5), .inl (cI, 72, .inl u421.2.2.2)), ((am 6), .inl (cI, 240, .inl lim))])) [(false, 0), (false, 1), (false, 2), (false, 3), (false, 4), (false, 5), (false, 6), (false, 7), (false, 8), (false, 9), (false, 10), (false, 11), (false, 12), (false, 13), (false, 14), (false, 15), (false, 16), (false, 17), (false, 18), (false, 19), (false, 20), (false, 21), (false, 22), (false, 23), (false, 24), (false, 25), (false, 26), (false, 27), (false, 28), (false, 29), (false, 30), (false, 31), (false, 32), (true, 0), (true, 1), (true, 2), (true, 3), (true, 4), (true, 5), (true, 6), (true, 7)] (va_runV (As := [.int (xs (i + 1)), .int (xs (i + 2))]) (rest := [.int (-1)]) (C := RX6) ⟨hx, hb, hml, hown, hts⟩ (r_gram_bad l D cI cO mz (am 0) (am 1) (am 2) (am 3) (am 4) (am 5) (am 6) ord ns ev y0 y1 ge gL gW ga gb gf lim ln wd (xs (i + 1)) (xs (i + 2)) (by omega) hMm (by omega)) ⟨(sg_cB 2 hts mcX6_gram ml_L_63 in_X6 rfl rfl (by decide +kernel) ⟨Nat.le_of_ble_eq_true rfl, Nat.le_of_ble_eq_true rfl⟩), hts _ im_X6_gram, hts _ se_X6_gram⟩ (sg_wV (q0 := 33) hK hP hD [33, 34, 35, 36, 37, 38, 39, 40] (by decide) rfl rfl rfl rfl) rfl rfl hl.1 rfl (lv_room (Nat.le_of_ble_eq_true rfl)) dL_law_421 ⟨hce, hsl⟩) hP hD hS [33, 34, 35, 36, 37, 38, 39, 40] rfl (fun _ => rfl) (by decide) (fun _ => rfl) (fun r421 u421 H locs hw421 hP hD hS => ?_)
    subst hw421
    refine ci_same (tgt := 607) hx hb dL_law_424 rfl ?_
    exact kk _ _ ⟨ord, ns, e, ln, wd, KO, KU, fL, fR, f1, f2, f3, fe, x0, x1, cf, cg, xf, yf, nI u421.1, y0, y1, ge, gL, gW, u421.2.1, u421.2.2.1, u421.2.2.2, lim, hP, hD, hS, hpu⟩

set_option maxHeartbeats 4000000 in
set_option maxRecDepth 100000 in
theorem lw_c11 {pZ : Program} {l : Launch} {eZ : Env} {sZ : State} {mZ : MethodId} {belowZ : List Frame} {methZ : Method} {cZ : Code} {b L : Nat} {xs : Nat → Int32} {H : Heap} {locs : List Loc} {ls : Array Slot} {Q : State → Prop} {A : Nat → Prop} {D : va_G} {cI cO : ClassId} {z mz : Nat} {ra ax am : Nat → Nat} {i cells slots : Nat} (hce : cells ≤ 600000) (hsl : slots ≤ 7302250) (hx : pZ.tables.exec = Jvm.exec) (hb : cZ.code = cL_law) (hml : cZ.maxLocals = 4) (hown : sZ.vm.findClass RL = some mZ.cls) (hts : ∀ wZ ∈ sgT, wZ.before #[Value.ref b] sZ = true) (hX : va_X b L xs sZ sZ.heap) (hbl : b < sZ.heap.size) (hbA : ¬ A b) (hL : L ≤ 2560) (hK : sgK D cI cO sZ) (hi : i + 5 ≤ L) (hl : lv_has ls 4 [(3, .int (nI i)), (2, .ref mz), (1, .ref z), (0, .ref b)]) (hI : lwI D cI cO A sZ.heap z mz ra ax am H locs) (kk : ∀ (H : Heap) (locs : List Loc), lwI D cI cO A sZ.heap z mz ra ax am H locs → W pZ l eZ room_1 sZ mZ #[Value.ref b] belowZ methZ cZ H locs cells slots Q (F0 mZ 607 ls [])) : W pZ l eZ room_1 sZ mZ #[Value.ref b] belowZ methZ cZ H locs cells slots Q (F0 mZ 429 ls []) := by
  obtain ⟨ord, ns, e, ln, wd, KO, KU, fL, fR, f1, f2, f3, fe, x0, x1, cf, cg, xf, yf, ev, y0, y1, ge, gL, gW, ga, gb, gf, lim, hP, hD, hS, hpu⟩ := hI
  have hpu0 := hpu
  obtain ⟨⟨ho, hns, hE, hKO, hKU⟩, hSt, hMm, hH, ⟨hfe, hge⟩, hlO, hlU⟩ := hpu0
  obtain ⟨hL0, hW⟩ := hSt ns (Nat.le_refl _)
  obtain ⟨hG0, hl8, hGW, hWd⟩ := hMm ns (Nat.le_refl _)
  have hB := rwS_bd hns hMm
  have hF : sgFlat (rwS ln wd ns) := sgRaw_flat ln wd ns
  by_cases hv : (0 ≤ (xs (i + 1)).toInt ∧ (xs (i + 1)).toInt < 7) ∧ (0 ≤ (xs (i + 2)).toInt ∧ (xs (i + 2)).toInt < 7) ∧ 0 ≤ (xs (i + 3)).toInt ∧ (xs (i + 3)).toInt < 6
  · obtain ⟨a, ha, ea⟩ := sg_num (x := xs (i + 1)) (lo := 0) (hi := 6) (by omega) (by omega)
    obtain ⟨bb, hbb, ebb⟩ := sg_num (x := xs (i + 2)) (lo := 0) (hi := 6) (by omega) (by omega)
    obtain ⟨w, hw, ew⟩ := sg_num (x := xs (i + 3)) (lo := 0) (hi := 5) (by omega) (by omega)
    refine lv_aload_n hx hb dL_law_429 rfl (lv_at hl 2 rfl) ?_
    refine lv_aload_n hx hb dL_law_430 rfl (lv_at hl 3 rfl) ?_
    refine lv_iload_n hx hb dL_law_431 rfl (lv_at hl 0 rfl) ?_
    refine lv_iconst (v := nI 1) hx hb dL_law_432 (by decide) ?_
    refine n_iadd hx hb dL_law_433 ?_
    refine n_sld (v := nI a) hx hb hX hbl hbA hS (by omega) (by omega) ea dL_law_434 ?_
    refine lv_aload_n hx hb dL_law_435 rfl (lv_at hl 3 rfl) ?_
    refine lv_iload_n hx hb dL_law_436 rfl (lv_at hl 0 rfl) ?_
    refine lv_iconst (v := nI 2) hx hb dL_law_437 (by decide) ?_
    refine n_iadd hx hb dL_law_438 ?_
    refine n_sld (v := nI bb) hx hb hX hbl hbA hS (by omega) (by omega) ebb dL_law_439 ?_
    refine lv_aload_n hx hb dL_law_440 rfl (lv_at hl 3 rfl) ?_
    refine lv_iload_n hx hb dL_law_441 rfl (lv_at hl 0 rfl) ?_
    refine lv_iconst (v := nI 3) hx hb dL_law_442 (by decide) ?_
    refine n_iadd hx hb dL_law_443 ?_
    refine n_sld (v := nI w) hx hb hX hbl hbA hS (by omega) (by omega) ew dL_law_444 ?_
    refine sg_callWl (fun _ => (rw9 ra cI fR ++ [(z, .inr (5, [.ref (ax 0), .ref (ax 3), .ref (ax 7), .ref (ax 8), .ref (ax 9), .ref (ax 14), .ref (ax 19), .ref (ax 21)])), ((ax 0), .inr (4, [.ref (ax 1), .ref (ax 2), .int (nI ns)])), ((ax 1), .inl (cO, 9, .inr (.inr (.inr (.inr (fun j => some (ra j))))))), ((ax 2), .inl (cI, 9, .inl fL)), ((ax 3), .inr (1, [.ref (ax 4), .ref (ax 5), .ref (ax 6), .int (nI ord)])), ((ax 4), .inl (cI, 7, .inl f1)), ((ax 5), .inl (cI, 49, .inl f2)), ((ax 6), .inl (cI, 343, .inl f3)), ((ax 7), .inl (cI, 4, .inl fe)), ((ax 8), .inr (0, [.long (lN (sgO (rwS ln wd ns) ord e a bb w)), .long (lN (sgU (rwS ln wd ns) ord e a bb w))])), ((ax 9), .inr (3, [.ref (ax 10), .ref (ax 12)])), ((ax 10), .inr (2, [.ref (ax 11)])), ((ax 11), .inl (cI, 9, .inl cf)), ((ax 12), .inr (2, [.ref (ax 13)])), ((ax 13), .inl (cI, 9, .inl cg)), ((ax 14), .inr (3, [.ref (ax 15), .ref (ax 17)])), ((ax 15), .inr (2, [.ref (ax 16)])), ((ax 16), .inl (cI, 9, .inl (dF KO))), ((ax 17), .inr (2, [.ref (ax 18)])), ((ax 18), .inl (cI, 9, .inl (dF KU))), ((ax 19), .inr (2, [.ref (ax 20)])), ((ax 20), .inl (cI, 18, .inl xf)), ((ax 21), .inr (2, [.ref (ax 22)])), ((ax 22), .inl (cI, 18, .inl yf)), (mz, .inr (6, [.int (nI ord), .ref (am 0), .int (nI ns), .ref (am 1), .ref (am 2), .int ev, .ref (am 3), .ref (am 4), .ref (am 5), .long y0, .long y1, .ref (am 6)])), ((am 0), .inl (cI, 4, .inl ge)), ((am 1), .inl (cI, 9, .inl gL)), ((am 2), .inl (cI, 72, .inl gW)), ((am 3), .inl (cI, 72, .inl ga)), ((am 4), .inl (cI, 72, .inl gb)), ((am 5), .inl (cI, 72, .inl gf)), ((am 6), .inl (cI, 240, .inl lim))])) [(false, 0), (false, 1), (false, 2), (false, 3), (false, 4), (false, 5), (false, 6), (false, 7), (false, 8), (true, 0), (false, 10), (false, 11), (false, 12), (true, 1), (true, 2), (true, 3), (true, 4), (true, 5), (true, 6), (false, 19), (false, 20), (false, 21), (false, 22), (false, 23), (false, 24), (false, 25), (false, 26), (false, 27), (false, 28), (false, 29), (false, 30), (false, 31), (false, 32), (false, 33), (false, 34), (false, 35), (false, 36), (false, 37), (false, 38), (false, 39), (false, 40)] (va_runV (As := [.int (nI a), .int (nI bb), .int (nI w)]) (rest := []) (C := RX5) ⟨hx, hb, hml, hown, hts⟩ (c_X5_top l D cI cO z (ax 0) (ax 3) (ax 7) (ax 8) (ax 9) (ax 14) (ax 19) (ax 21) (ax 4) (ax 5) (ax 6) ord f1 f2 f3 fe x0 x1 (rwS ln wd ns) e a bb w hH hF hB (by omega) hE hfe (by omega) (by omega) (by omega)) ⟨(sg_cB 3 hts mcX5_top ml_L_64 in_X5 rfl rfl (by decide +kernel) ⟨Nat.le_of_ble_eq_true rfl, Nat.le_of_ble_eq_true rfl⟩), hts _ im_X5_top, hts _ se_X5_top⟩ (sg_wV (q0 := 9) hK hP hD [9, 13, 14, 15, 16, 17, 18] (by decide) rfl rfl rfl rfl) rfl rfl hl.1 rfl (lv_room (Nat.le_of_ble_eq_true rfl)) dL_law_445 ⟨hce, hsl⟩) hP hD hS [9, 13, 14, 15, 16, 17, 18] rfl (fun _ => rfl) (by decide) (fun _ => rfl) (fun r445 u445 H locs hw445 hP hD hS => ?_)
    subst hw445
    refine lv_aload_n hx hb dL_law_448 rfl (lv_at hl 1 rfl) ?_
    refine lv_aload_n hx hb dL_law_449 rfl (lv_at hl 3 rfl) ?_
    refine lv_iload_n hx hb dL_law_450 rfl (lv_at hl 0 rfl) ?_
    refine lv_iconst (v := nI 1) hx hb dL_law_451 (by decide) ?_
    refine n_iadd hx hb dL_law_452 ?_
    refine n_sld (v := nI a) hx hb hX hbl hbA hS (by omega) (by omega) ea dL_law_453 ?_
    refine lv_aload_n hx hb dL_law_454 rfl (lv_at hl 3 rfl) ?_
    refine lv_iload_n hx hb dL_law_455 rfl (lv_at hl 0 rfl) ?_
    refine lv_iconst (v := nI 2) hx hb dL_law_456 (by decide) ?_
    refine n_iadd hx hb dL_law_457 ?_
    refine n_sld (v := nI bb) hx hb hX hbl hbA hS (by omega) (by omega) ebb dL_law_458 ?_
    refine lv_aload_n hx hb dL_law_459 rfl (lv_at hl 3 rfl) ?_
    refine lv_iload_n hx hb dL_law_460 rfl (lv_at hl 0 rfl) ?_
    refine lv_iconst (v := nI 3) hx hb dL_law_461 (by decide) ?_
    refine n_iadd hx hb dL_law_462 ?_
    refine n_sld (v := nI w) hx hb hX hbl hbA hS (by omega) (by omega) ew dL_law_463 ?_
    refine sg_callWl (fun u464 => (rw9 ra cI fR ++ [(z, .inr (5, [.ref (ax 0), .ref (ax 3), .ref (ax 7), .ref (ax 8), .ref (ax 9), .ref (ax 14), .ref (ax 19), .ref (ax 21)])), ((ax 0), .inr (4, [.ref (ax 1), .ref (ax 2), .int (nI ns)])), ((ax 1), .inl (cO, 9, .inr (.inr (.inr (.inr (fun j => some (ra j))))))), ((ax 2), .inl (cI, 9, .inl fL)), ((ax 3), .inr (1, [.ref (ax 4), .ref (ax 5), .ref (ax 6), .int (nI ord)])), ((ax 4), .inl (cI, 7, .inl f1)), ((ax 5), .inl (cI, 49, .inl f2)), ((ax 6), .inl (cI, 343, .inl f3)), ((ax 7), .inl (cI, 4, .inl fe)), ((ax 8), .inr (0, [.long (lN (sgO (rwS ln wd ns) ord e a bb w)), .long (lN (sgU (rwS ln wd ns) ord e a bb w))])), ((ax 9), .inr (3, [.ref (ax 10), .ref (ax 12)])), ((ax 10), .inr (2, [.ref (ax 11)])), ((ax 11), .inl (cI, 9, .inl cf)), ((ax 12), .inr (2, [.ref (ax 13)])), ((ax 13), .inl (cI, 9, .inl cg)), ((ax 14), .inr (3, [.ref (ax 15), .ref (ax 17)])), ((ax 15), .inr (2, [.ref (ax 16)])), ((ax 16), .inl (cI, 9, .inl (dF KO))), ((ax 17), .inr (2, [.ref (ax 18)])), ((ax 18), .inl (cI, 9, .inl (dF KU))), ((ax 19), .inr (2, [.ref (ax 20)])), ((ax 20), .inl (cI, 18, .inl xf)), ((ax 21), .inr (2, [.ref (ax 22)])), ((ax 22), .inl (cI, 18, .inl yf)), (mz, .inr (6, [.int (nI ord), .ref (am 0), .int (nI ns), .ref (am 1), .ref (am 2), .int (nI u464.1), .ref (am 3), .ref (am 4), .ref (am 5), .long (lN (sgO (rwS ln wd ns) ord e a bb w)), .long (lN (sgU (rwS ln wd ns) ord e a bb w)), .ref (am 6)])), ((am 0), .inl (cI, 4, .inl ge)), ((am 1), .inl (cI, 9, .inl gL)), ((am 2), .inl (cI, 72, .inl gW)), ((am 3), .inl (cI, 72, .inl u464.2.1)), ((am 4), .inl (cI, 72, .inl u464.2.2.1)), ((am 5), .inl (cI, 72, .inl u464.2.2.2)), ((am 6), .inl (cI, 240, .inl lim))])) [(false, 0), (false, 1), (false, 2), (false, 3), (false, 4), (false, 5), (false, 6), (false, 7), (false, 8), (false, 9), (false, 10), (false, 11), (false, 12), (false, 13), (false, 14), (false, 15), (false, 16), (false, 17), (false, 18), (false, 19), (false, 20), (false, 21), (false, 22), (false, 23), (false, 24), (false, 25), (false, 26), (false, 27), (false, 28), (false, 29), (false, 30), (false, 31), (false, 32), (true, 0), (true, 1), (true, 2), (true, 3), (true, 4), (true, 5), (true, 6), (true, 7)] (va_runV (As := [.int (nI a), .int (nI bb), .int (nI w)]) (rest := [.long (lN (sgO (rwS ln wd ns) ord e a bb w))]) (C := RX6) ⟨hx, hb, hml, hown, hts⟩ (c_X6_top l D cI cO mz (am 0) (am 1) (am 2) (am 3) (am 4) (am 5) (am 6) ord ns ev y0 y1 ge gL gW ga gb gf lim ln wd e a bb w (by omega) hMm (by omega) hE hge (by omega) (by omega) (by omega)) ⟨(sg_cB 3 hts mcX6_top ml_L_68 in_X6 rfl rfl (by decide +kernel) ⟨Nat.le_of_ble_eq_true rfl, Nat.le_of_ble_eq_true rfl⟩), hts _ im_X6_top, hts _ se_X6_top⟩ (sg_wV (q0 := 33) hK hP hD [33, 34, 35, 36, 37, 38, 39, 40] (by decide) rfl rfl rfl rfl) rfl rfl hl.1 rfl (lv_room (Nat.le_of_ble_eq_true rfl)) dL_law_464 ⟨hce, hsl⟩) hP hD hS [33, 34, 35, 36, 37, 38, 39, 40] rfl (fun _ => rfl) (by decide) (fun _ => rfl) (fun r464 u464 H locs hw464 hP hD hS => ?_)
    subst hw464
    refine ci_lsame (tgt := 607) hx hb dL_law_467 dL_law_468 rfl ?_
    exact kk _ _ ⟨ord, ns, e, ln, wd, KO, KU, fL, fR, f1, f2, f3, fe, lN (sgO (rwS ln wd ns) ord e a bb w), lN (sgU (rwS ln wd ns) ord e a bb w), cf, cg, xf, yf, nI u464.1, lN (sgO (rwS ln wd ns) ord e a bb w), lN (sgU (rwS ln wd ns) ord e a bb w), ge, gL, gW, u464.2.1, u464.2.2.1, u464.2.2.2, lim, hP, hD, hS, hpu⟩
  · skip
    refine lv_aload_n hx hb dL_law_429 rfl (lv_at hl 2 rfl) ?_
    refine lv_aload_n hx hb dL_law_430 rfl (lv_at hl 3 rfl) ?_
    refine lv_iload_n hx hb dL_law_431 rfl (lv_at hl 0 rfl) ?_
    refine lv_iconst (v := nI 1) hx hb dL_law_432 (by decide) ?_
    refine n_iadd hx hb dL_law_433 ?_
    refine n_sld (v := xs (i + 1)) hx hb hX hbl hbA hS (by omega) (by omega) rfl dL_law_434 ?_
    refine lv_aload_n hx hb dL_law_435 rfl (lv_at hl 3 rfl) ?_
    refine lv_iload_n hx hb dL_law_436 rfl (lv_at hl 0 rfl) ?_
    refine lv_iconst (v := nI 2) hx hb dL_law_437 (by decide) ?_
    refine n_iadd hx hb dL_law_438 ?_
    refine n_sld (v := xs (i + 2)) hx hb hX hbl hbA hS (by omega) (by omega) rfl dL_law_439 ?_
    refine lv_aload_n hx hb dL_law_440 rfl (lv_at hl 3 rfl) ?_
    refine lv_iload_n hx hb dL_law_441 rfl (lv_at hl 0 rfl) ?_
    refine lv_iconst (v := nI 3) hx hb dL_law_442 (by decide) ?_
    refine n_iadd hx hb dL_law_443 ?_
    refine n_sld (v := xs (i + 3)) hx hb hX hbl hbA hS (by omega) (by omega) rfl dL_law_444 ?_
    refine sg_callRl (va_runV (As := [.int (xs (i + 1)), .int (xs (i + 2)), .int (xs (i + 3))]) (rest := []) (C := RX5) ⟨hx, hb, hml, hown, hts⟩ (c_top_bad l D cI cO z (ax 0) (ax 3) (ax 7) (ax 8) (ax 9) (ax 14) (ax 19) (ax 21) (xs (i + 1)) (xs (i + 2)) (xs (i + 3)) (by omega)) ⟨(sg_cB 3 hts mcX5_top ml_L_64 in_X5 rfl rfl (by decide +kernel) ⟨Nat.le_of_ble_eq_true rfl, Nat.le_of_ble_eq_true rfl⟩), hts _ im_X5_top, hts _ se_X5_top⟩ (sg_pV (q0 := 9) hK hP [9] rfl rfl rfl rfl) rfl rfl hl.1 rfl (lv_room (Nat.le_of_ble_eq_true rfl)) dL_law_445 ⟨hce, hsl⟩) ?_
    refine lv_aload_n hx hb dL_law_448 rfl (lv_at hl 1 rfl) ?_
    refine lv_aload_n hx hb dL_law_449 rfl (lv_at hl 3 rfl) ?_
    refine lv_iload_n hx hb dL_law_450 rfl (lv_at hl 0 rfl) ?_
    refine lv_iconst (v := nI 1) hx hb dL_law_451 (by decide) ?_
    refine n_iadd hx hb dL_law_452 ?_
    refine n_sld (v := xs (i + 1)) hx hb hX hbl hbA hS (by omega) (by omega) rfl dL_law_453 ?_
    refine lv_aload_n hx hb dL_law_454 rfl (lv_at hl 3 rfl) ?_
    refine lv_iload_n hx hb dL_law_455 rfl (lv_at hl 0 rfl) ?_
    refine lv_iconst (v := nI 2) hx hb dL_law_456 (by decide) ?_
    refine n_iadd hx hb dL_law_457 ?_
    refine n_sld (v := xs (i + 2)) hx hb hX hbl hbA hS (by omega) (by omega) rfl dL_law_458 ?_
    refine lv_aload_n hx hb dL_law_459 rfl (lv_at hl 3 rfl) ?_
    refine lv_iload_n hx hb dL_law_460 rfl (lv_at hl 0 rfl) ?_
    refine lv_iconst (v := nI 3) hx hb dL_law_461 (by decide) ?_
    refine n_iadd hx hb dL_law_462 ?_
    refine n_sld (v := xs (i + 3)) hx hb hX hbl hbA hS (by omega) (by omega) rfl dL_law_463 ?_
    refine sg_callRl (va_runV (As := [.int (xs (i + 1)), .int (xs (i + 2)), .int (xs (i + 3))]) (rest := [.long (-1)]) (C := RX6) ⟨hx, hb, hml, hown, hts⟩ (r_top_bad l D cI cO mz (am 0) (am 1) (am 2) (am 3) (am 4) (am 5) (am 6) ord ns ev y0 y1 ge gL gW ga gb gf lim (xs (i + 1)) (xs (i + 2)) (xs (i + 3)) (by omega)) ⟨(sg_cB 3 hts mcX6_top ml_L_68 in_X6 rfl rfl (by decide +kernel) ⟨Nat.le_of_ble_eq_true rfl, Nat.le_of_ble_eq_true rfl⟩), hts _ im_X6_top, hts _ se_X6_top⟩ (sg_pV (q0 := 33) hK hP [33, 34, 35, 36, 37, 38, 39, 40] rfl rfl rfl rfl) rfl rfl hl.1 rfl (lv_room (Nat.le_of_ble_eq_true rfl)) dL_law_464 ⟨hce, hsl⟩) ?_
    refine ci_lsame (tgt := 607) hx hb dL_law_467 dL_law_468 rfl ?_
    exact kk _ _ ⟨ord, ns, e, ln, wd, KO, KU, fL, fR, f1, f2, f3, fe, x0, x1, cf, cg, xf, yf, ev, y0, y1, ge, gL, gW, ga, gb, gf, lim, hP, hD, hS, hpu⟩
set_option maxHeartbeats 4000000 in
set_option maxRecDepth 100000 in
theorem lw_c12 {pZ : Program} {l : Launch} {eZ : Env} {sZ : State} {mZ : MethodId} {belowZ : List Frame} {methZ : Method} {cZ : Code} {b L : Nat} {xs : Nat → Int32} {H : Heap} {locs : List Loc} {ls : Array Slot} {Q : State → Prop} {A : Nat → Prop} {D : va_G} {cI cO : ClassId} {z mz : Nat} {ra ax am : Nat → Nat} {i cells slots : Nat} (hce : cells ≤ 600000) (hsl : slots ≤ 7302250) (hx : pZ.tables.exec = Jvm.exec) (hb : cZ.code = cL_law) (hml : cZ.maxLocals = 4) (hown : sZ.vm.findClass RL = some mZ.cls) (hts : ∀ wZ ∈ sgT, wZ.before #[Value.ref b] sZ = true) (hX : va_X b L xs sZ sZ.heap) (hbl : b < sZ.heap.size) (hbA : ¬ A b) (hL : L ≤ 2560) (hK : sgK D cI cO sZ) (hi : i + 5 ≤ L) (hl : lv_has ls 4 [(3, .int (nI i)), (2, .ref mz), (1, .ref z), (0, .ref b)]) (hI : lwI D cI cO A sZ.heap z mz ra ax am H locs) (kk : ∀ (H : Heap) (locs : List Loc), lwI D cI cO A sZ.heap z mz ra ax am H locs → W pZ l eZ room_1 sZ mZ #[Value.ref b] belowZ methZ cZ H locs cells slots Q (F0 mZ 607 ls [])) : W pZ l eZ room_1 sZ mZ #[Value.ref b] belowZ methZ cZ H locs cells slots Q (F0 mZ 473 ls []) := by
  obtain ⟨ord, ns, e, ln, wd, KO, KU, fL, fR, f1, f2, f3, fe, x0, x1, cf, cg, xf, yf, ev, y0, y1, ge, gL, gW, ga, gb, gf, lim, hP, hD, hS, hpu⟩ := hI
  have hpu0 := hpu
  obtain ⟨⟨ho, hns, hE, hKO, hKU⟩, hSt, hMm, hH, ⟨hfe, hge⟩, hlO, hlU⟩ := hpu0
  obtain ⟨hL0, hW⟩ := hSt ns (Nat.le_refl _)
  obtain ⟨hG0, hl8, hGW, hWd⟩ := hMm ns (Nat.le_refl _)
  have hB := rwS_bd hns hMm
  have hF : sgFlat (rwS ln wd ns) := sgRaw_flat ln wd ns
  by_cases hv : (0 ≤ (xs (i + 1)).toInt ∧ (xs (i + 1)).toInt < 7) ∧ (0 ≤ (xs (i + 2)).toInt ∧ (xs (i + 2)).toInt < 7) ∧ 0 ≤ (xs (i + 3)).toInt ∧ (xs (i + 3)).toInt < 6
  · obtain ⟨a, ha, ea⟩ := sg_num (x := xs (i + 1)) (lo := 0) (hi := 6) (by omega) (by omega)
    obtain ⟨bb, hbb, ebb⟩ := sg_num (x := xs (i + 2)) (lo := 0) (hi := 6) (by omega) (by omega)
    obtain ⟨w, hw, ew⟩ := sg_num (x := xs (i + 3)) (lo := 0) (hi := 5) (by omega) (by omega)
    refine lv_aload_n hx hb dL_law_473 rfl (lv_at hl 2 rfl) ?_
    refine lv_aload_n hx hb dL_law_474 rfl (lv_at hl 3 rfl) ?_
    refine lv_iload_n hx hb dL_law_475 rfl (lv_at hl 0 rfl) ?_
    refine lv_iconst (v := nI 1) hx hb dL_law_476 (by decide) ?_
    refine n_iadd hx hb dL_law_477 ?_
    refine n_sld (v := nI a) hx hb hX hbl hbA hS (by omega) (by omega) ea dL_law_478 ?_
    refine lv_aload_n hx hb dL_law_479 rfl (lv_at hl 3 rfl) ?_
    refine lv_iload_n hx hb dL_law_480 rfl (lv_at hl 0 rfl) ?_
    refine lv_iconst (v := nI 2) hx hb dL_law_481 (by decide) ?_
    refine n_iadd hx hb dL_law_482 ?_
    refine n_sld (v := nI bb) hx hb hX hbl hbA hS (by omega) (by omega) ebb dL_law_483 ?_
    refine lv_aload_n hx hb dL_law_484 rfl (lv_at hl 3 rfl) ?_
    refine lv_iload_n hx hb dL_law_485 rfl (lv_at hl 0 rfl) ?_
    refine lv_iconst (v := nI 3) hx hb dL_law_486 (by decide) ?_
    refine n_iadd hx hb dL_law_487 ?_
    refine n_sld (v := nI w) hx hb hX hbl hbA hS (by omega) (by omega) ew dL_law_488 ?_
    refine sg_callWl (fun _ => (rw9 ra cI fR ++ [(z, .inr (5, [.ref (ax 0), .ref (ax 3), .ref (ax 7), .ref (ax 8), .ref (ax 9), .ref (ax 14), .ref (ax 19), .ref (ax 21)])), ((ax 0), .inr (4, [.ref (ax 1), .ref (ax 2), .int (nI ns)])), ((ax 1), .inl (cO, 9, .inr (.inr (.inr (.inr (fun j => some (ra j))))))), ((ax 2), .inl (cI, 9, .inl fL)), ((ax 3), .inr (1, [.ref (ax 4), .ref (ax 5), .ref (ax 6), .int (nI ord)])), ((ax 4), .inl (cI, 7, .inl f1)), ((ax 5), .inl (cI, 49, .inl f2)), ((ax 6), .inl (cI, 343, .inl f3)), ((ax 7), .inl (cI, 4, .inl fe)), ((ax 8), .inr (0, [.long (lN (sgO (rwS ln wd ns) ord e a bb w)), .long (lN (sgU (rwS ln wd ns) ord e a bb w))])), ((ax 9), .inr (3, [.ref (ax 10), .ref (ax 12)])), ((ax 10), .inr (2, [.ref (ax 11)])), ((ax 11), .inl (cI, 9, .inl cf)), ((ax 12), .inr (2, [.ref (ax 13)])), ((ax 13), .inl (cI, 9, .inl cg)), ((ax 14), .inr (3, [.ref (ax 15), .ref (ax 17)])), ((ax 15), .inr (2, [.ref (ax 16)])), ((ax 16), .inl (cI, 9, .inl (dF KO))), ((ax 17), .inr (2, [.ref (ax 18)])), ((ax 18), .inl (cI, 9, .inl (dF KU))), ((ax 19), .inr (2, [.ref (ax 20)])), ((ax 20), .inl (cI, 18, .inl xf)), ((ax 21), .inr (2, [.ref (ax 22)])), ((ax 22), .inl (cI, 18, .inl yf)), (mz, .inr (6, [.int (nI ord), .ref (am 0), .int (nI ns), .ref (am 1), .ref (am 2), .int ev, .ref (am 3), .ref (am 4), .ref (am 5), .long y0, .long y1, .ref (am 6)])), ((am 0), .inl (cI, 4, .inl ge)), ((am 1), .inl (cI, 9, .inl gL)), ((am 2), .inl (cI, 72, .inl gW)), ((am 3), .inl (cI, 72, .inl ga)), ((am 4), .inl (cI, 72, .inl gb)), ((am 5), .inl (cI, 72, .inl gf)), ((am 6), .inl (cI, 240, .inl lim))])) [(false, 0), (false, 1), (false, 2), (false, 3), (false, 4), (false, 5), (false, 6), (false, 7), (false, 8), (true, 0), (false, 10), (false, 11), (false, 12), (true, 1), (true, 2), (true, 3), (true, 4), (true, 5), (true, 6), (false, 19), (false, 20), (false, 21), (false, 22), (false, 23), (false, 24), (false, 25), (false, 26), (false, 27), (false, 28), (false, 29), (false, 30), (false, 31), (false, 32), (false, 33), (false, 34), (false, 35), (false, 36), (false, 37), (false, 38), (false, 39), (false, 40)] (va_runV (As := [.int (nI a), .int (nI bb), .int (nI w)]) (rest := []) (C := RX5) ⟨hx, hb, hml, hown, hts⟩ (c_X5_bottom l D cI cO z (ax 0) (ax 3) (ax 7) (ax 8) (ax 9) (ax 14) (ax 19) (ax 21) (ax 4) (ax 5) (ax 6) ord f1 f2 f3 fe x0 x1 (rwS ln wd ns) e a bb w hH hF hB (by omega) hE hfe (by omega) (by omega) (by omega)) ⟨(sg_cB 3 hts mcX5_bottom ml_L_69 in_X5 rfl rfl (by decide +kernel) ⟨Nat.le_of_ble_eq_true rfl, Nat.le_of_ble_eq_true rfl⟩), hts _ im_X5_bottom, hts _ se_X5_bottom⟩ (sg_wV (q0 := 9) hK hP hD [9, 13, 14, 15, 16, 17, 18] (by decide) rfl rfl rfl rfl) rfl rfl hl.1 rfl (lv_room (Nat.le_of_ble_eq_true rfl)) dL_law_489 ⟨hce, hsl⟩) hP hD hS [9, 13, 14, 15, 16, 17, 18] rfl (fun _ => rfl) (by decide) (fun _ => rfl) (fun r489 u489 H locs hw489 hP hD hS => ?_)
    subst hw489
    refine lv_aload_n hx hb dL_law_492 rfl (lv_at hl 1 rfl) ?_
    refine lv_aload_n hx hb dL_law_493 rfl (lv_at hl 3 rfl) ?_
    refine lv_iload_n hx hb dL_law_494 rfl (lv_at hl 0 rfl) ?_
    refine lv_iconst (v := nI 1) hx hb dL_law_495 (by decide) ?_
    refine n_iadd hx hb dL_law_496 ?_
    refine n_sld (v := nI a) hx hb hX hbl hbA hS (by omega) (by omega) ea dL_law_497 ?_
    refine lv_aload_n hx hb dL_law_498 rfl (lv_at hl 3 rfl) ?_
    refine lv_iload_n hx hb dL_law_499 rfl (lv_at hl 0 rfl) ?_
    refine lv_iconst (v := nI 2) hx hb dL_law_500 (by decide) ?_
    refine n_iadd hx hb dL_law_501 ?_
    refine n_sld (v := nI bb) hx hb hX hbl hbA hS (by omega) (by omega) ebb dL_law_502 ?_
    refine lv_aload_n hx hb dL_law_503 rfl (lv_at hl 3 rfl) ?_
    refine lv_iload_n hx hb dL_law_504 rfl (lv_at hl 0 rfl) ?_
    refine lv_iconst (v := nI 3) hx hb dL_law_505 (by decide) ?_
    refine n_iadd hx hb dL_law_506 ?_
    refine n_sld (v := nI w) hx hb hX hbl hbA hS (by omega) (by omega) ew dL_law_507 ?_
    refine sg_callWl (fun u508 => (rw9 ra cI fR ++ [(z, .inr (5, [.ref (ax 0), .ref (ax 3), .ref (ax 7), .ref (ax 8), .ref (ax 9), .ref (ax 14), .ref (ax 19), .ref (ax 21)])), ((ax 0), .inr (4, [.ref (ax 1), .ref (ax 2), .int (nI ns)])), ((ax 1), .inl (cO, 9, .inr (.inr (.inr (.inr (fun j => some (ra j))))))), ((ax 2), .inl (cI, 9, .inl fL)), ((ax 3), .inr (1, [.ref (ax 4), .ref (ax 5), .ref (ax 6), .int (nI ord)])), ((ax 4), .inl (cI, 7, .inl f1)), ((ax 5), .inl (cI, 49, .inl f2)), ((ax 6), .inl (cI, 343, .inl f3)), ((ax 7), .inl (cI, 4, .inl fe)), ((ax 8), .inr (0, [.long (lN (sgO (rwS ln wd ns) ord e a bb w)), .long (lN (sgU (rwS ln wd ns) ord e a bb w))])), ((ax 9), .inr (3, [.ref (ax 10), .ref (ax 12)])), ((ax 10), .inr (2, [.ref (ax 11)])), ((ax 11), .inl (cI, 9, .inl cf)), ((ax 12), .inr (2, [.ref (ax 13)])), ((ax 13), .inl (cI, 9, .inl cg)), ((ax 14), .inr (3, [.ref (ax 15), .ref (ax 17)])), ((ax 15), .inr (2, [.ref (ax 16)])), ((ax 16), .inl (cI, 9, .inl (dF KO))), ((ax 17), .inr (2, [.ref (ax 18)])), ((ax 18), .inl (cI, 9, .inl (dF KU))), ((ax 19), .inr (2, [.ref (ax 20)])), ((ax 20), .inl (cI, 18, .inl xf)), ((ax 21), .inr (2, [.ref (ax 22)])), ((ax 22), .inl (cI, 18, .inl yf)), (mz, .inr (6, [.int (nI ord), .ref (am 0), .int (nI ns), .ref (am 1), .ref (am 2), .int (nI u508.1), .ref (am 3), .ref (am 4), .ref (am 5), .long (lN (sgO (rwS ln wd ns) ord e a bb w)), .long (lN (sgU (rwS ln wd ns) ord e a bb w)), .ref (am 6)])), ((am 0), .inl (cI, 4, .inl ge)), ((am 1), .inl (cI, 9, .inl gL)), ((am 2), .inl (cI, 72, .inl gW)), ((am 3), .inl (cI, 72, .inl u508.2.1)), ((am 4), .inl (cI, 72, .inl u508.2.2.1)), ((am 5), .inl (cI, 72, .inl u508.2.2.2)), ((am 6), .inl (cI, 240, .inl lim))])) [(false, 0), (false, 1), (false, 2), (false, 3), (false, 4), (false, 5), (false, 6), (false, 7), (false, 8), (false, 9), (false, 10), (false, 11), (false, 12), (false, 13), (false, 14), (false, 15), (false, 16), (false, 17), (false, 18), (false, 19), (false, 20), (false, 21), (false, 22), (false, 23), (false, 24), (false, 25), (false, 26), (false, 27), (false, 28), (false, 29), (false, 30), (false, 31), (false, 32), (true, 0), (true, 1), (true, 2), (true, 3), (true, 4), (true, 5), (true, 6), (true, 7)] (va_runV (As := [.int (nI a), .int (nI bb), .int (nI w)]) (rest := [.long (lN (sgU (rwS ln wd ns) ord e a bb w))]) (C := RX6) ⟨hx, hb, hml, hown, hts⟩ (c_X6_bottom l D cI cO mz (am 0) (am 1) (am 2) (am 3) (am 4) (am 5) (am 6) ord ns ev y0 y1 ge gL gW ga gb gf lim ln wd e a bb w (by omega) hMm (by omega) hE hge (by omega) (by omega) (by omega)) ⟨(sg_cB 3 hts mcX6_bottom ml_L_72 in_X6 rfl rfl (by decide +kernel) ⟨Nat.le_of_ble_eq_true rfl, Nat.le_of_ble_eq_true rfl⟩), hts _ im_X6_bottom, hts _ se_X6_bottom⟩ (sg_wV (q0 := 33) hK hP hD [33, 34, 35, 36, 37, 38, 39, 40] (by decide) rfl rfl rfl rfl) rfl rfl hl.1 rfl (lv_room (Nat.le_of_ble_eq_true rfl)) dL_law_508 ⟨hce, hsl⟩) hP hD hS [33, 34, 35, 36, 37, 38, 39, 40] rfl (fun _ => rfl) (by decide) (fun _ => rfl) (fun r508 u508 H locs hw508 hP hD hS => ?_)
    subst hw508
    refine ci_lsame (tgt := 607) hx hb dL_law_511 dL_law_512 rfl ?_
    exact kk _ _ ⟨ord, ns, e, ln, wd, KO, KU, fL, fR, f1, f2, f3, fe, lN (sgO (rwS ln wd ns) ord e a bb w), lN (sgU (rwS ln wd ns) ord e a bb w), cf, cg, xf, yf, nI u508.1, lN (sgO (rwS ln wd ns) ord e a bb w), lN (sgU (rwS ln wd ns) ord e a bb w), ge, gL, gW, u508.2.1, u508.2.2.1, u508.2.2.2, lim, hP, hD, hS, hpu⟩
  · skip
    refine lv_aload_n hx hb dL_law_473 rfl (lv_at hl 2 rfl) ?_
    refine lv_aload_n hx hb dL_law_474 rfl (lv_at hl 3 rfl) ?_
    refine lv_iload_n hx hb dL_law_475 rfl (lv_at hl 0 rfl) ?_
    refine lv_iconst (v := nI 1) hx hb dL_law_476 (by decide) ?_
    refine n_iadd hx hb dL_law_477 ?_
    refine n_sld (v := xs (i + 1)) hx hb hX hbl hbA hS (by omega) (by omega) rfl dL_law_478 ?_
    refine lv_aload_n hx hb dL_law_479 rfl (lv_at hl 3 rfl) ?_
    refine lv_iload_n hx hb dL_law_480 rfl (lv_at hl 0 rfl) ?_
    refine lv_iconst (v := nI 2) hx hb dL_law_481 (by decide) ?_
    refine n_iadd hx hb dL_law_482 ?_
    refine n_sld (v := xs (i + 2)) hx hb hX hbl hbA hS (by omega) (by omega) rfl dL_law_483 ?_
    refine lv_aload_n hx hb dL_law_484 rfl (lv_at hl 3 rfl) ?_
    refine lv_iload_n hx hb dL_law_485 rfl (lv_at hl 0 rfl) ?_
    refine lv_iconst (v := nI 3) hx hb dL_law_486 (by decide) ?_
    refine n_iadd hx hb dL_law_487 ?_
    refine n_sld (v := xs (i + 3)) hx hb hX hbl hbA hS (by omega) (by omega) rfl dL_law_488 ?_
    refine sg_callRl (va_runV (As := [.int (xs (i + 1)), .int (xs (i + 2)), .int (xs (i + 3))]) (rest := []) (C := RX5) ⟨hx, hb, hml, hown, hts⟩ (c_bottom_bad l D cI cO z (ax 0) (ax 3) (ax 7) (ax 8) (ax 9) (ax 14) (ax 19) (ax 21) (xs (i + 1)) (xs (i + 2)) (xs (i + 3)) (by omega)) ⟨(sg_cB 3 hts mcX5_bottom ml_L_69 in_X5 rfl rfl (by decide +kernel) ⟨Nat.le_of_ble_eq_true rfl, Nat.le_of_ble_eq_true rfl⟩), hts _ im_X5_bottom, hts _ se_X5_bottom⟩ (sg_pV (q0 := 9) hK hP [9] rfl rfl rfl rfl) rfl rfl hl.1 rfl (lv_room (Nat.le_of_ble_eq_true rfl)) dL_law_489 ⟨hce, hsl⟩) ?_
    refine lv_aload_n hx hb dL_law_492 rfl (lv_at hl 1 rfl) ?_
    refine lv_aload_n hx hb dL_law_493 rfl (lv_at hl 3 rfl) ?_
    refine lv_iload_n hx hb dL_law_494 rfl (lv_at hl 0 rfl) ?_
    refine lv_iconst (v := nI 1) hx hb dL_law_495 (by decide) ?_
    refine n_iadd hx hb dL_law_496 ?_
    refine n_sld (v := xs (i + 1)) hx hb hX hbl hbA hS (by omega) (by omega) rfl dL_law_497 ?_
    refine lv_aload_n hx hb dL_law_498 rfl (lv_at hl 3 rfl) ?_
    refine lv_iload_n hx hb dL_law_499 rfl (lv_at hl 0 rfl) ?_
    refine lv_iconst (v := nI 2) hx hb dL_law_500 (by decide) ?_
    refine n_iadd hx hb dL_law_501 ?_
    refine n_sld (v := xs (i + 2)) hx hb hX hbl hbA hS (by omega) (by omega) rfl dL_law_502 ?_
    refine lv_aload_n hx hb dL_law_503 rfl (lv_at hl 3 rfl) ?_
    refine lv_iload_n hx hb dL_law_504 rfl (lv_at hl 0 rfl) ?_
    refine lv_iconst (v := nI 3) hx hb dL_law_505 (by decide) ?_
    refine n_iadd hx hb dL_law_506 ?_
    refine n_sld (v := xs (i + 3)) hx hb hX hbl hbA hS (by omega) (by omega) rfl dL_law_507 ?_
    refine sg_callRl (va_runV (As := [.int (xs (i + 1)), .int (xs (i + 2)), .int (xs (i + 3))]) (rest := [.long (-1)]) (C := RX6) ⟨hx, hb, hml, hown, hts⟩ (r_bottom_bad l D cI cO mz (am 0) (am 1) (am 2) (am 3) (am 4) (am 5) (am 6) ord ns ev y0 y1 ge gL gW ga gb gf lim (xs (i + 1)) (xs (i + 2)) (xs (i + 3)) (by omega)) ⟨(sg_cB 3 hts mcX6_bottom ml_L_72 in_X6 rfl rfl (by decide +kernel) ⟨Nat.le_of_ble_eq_true rfl, Nat.le_of_ble_eq_true rfl⟩), hts _ im_X6_bottom, hts _ se_X6_bottom⟩ (sg_pV (q0 := 33) hK hP [33, 34, 35, 36, 37, 38, 39, 40] rfl rfl rfl rfl) rfl rfl hl.1 rfl (lv_room (Nat.le_of_ble_eq_true rfl)) dL_law_508 ⟨hce, hsl⟩) ?_
    refine ci_lsame (tgt := 607) hx hb dL_law_511 dL_law_512 rfl ?_
    exact kk _ _ ⟨ord, ns, e, ln, wd, KO, KU, fL, fR, f1, f2, f3, fe, x0, x1, cf, cg, xf, yf, ev, y0, y1, ge, gL, gW, ga, gb, gf, lim, hP, hD, hS, hpu⟩
set_option maxHeartbeats 4000000 in
set_option maxRecDepth 100000 in
theorem lw_c13 {pZ : Program} {l : Launch} {eZ : Env} {sZ : State} {mZ : MethodId} {belowZ : List Frame} {methZ : Method} {cZ : Code} {b L : Nat} {xs : Nat → Int32} {H : Heap} {locs : List Loc} {ls : Array Slot} {Q : State → Prop} {A : Nat → Prop} {D : va_G} {cI cO : ClassId} {z mz : Nat} {ra ax am : Nat → Nat} {i cells slots : Nat} (hce : cells ≤ 600000) (hsl : slots ≤ 7302250) (hx : pZ.tables.exec = Jvm.exec) (hb : cZ.code = cL_law) (hml : cZ.maxLocals = 4) (hown : sZ.vm.findClass RL = some mZ.cls) (hts : ∀ wZ ∈ sgT, wZ.before #[Value.ref b] sZ = true) (hX : va_X b L xs sZ sZ.heap) (hbl : b < sZ.heap.size) (hbA : ¬ A b) (hL : L ≤ 2560) (hK : sgK D cI cO sZ) (hi : i + 5 ≤ L) (hl : lv_has ls 4 [(3, .int (nI i)), (2, .ref mz), (1, .ref z), (0, .ref b)]) (hI : lwI D cI cO A sZ.heap z mz ra ax am H locs) (kk : ∀ (H : Heap) (locs : List Loc), lwI D cI cO A sZ.heap z mz ra ax am H locs → W pZ l eZ room_1 sZ mZ #[Value.ref b] belowZ methZ cZ H locs cells slots Q (F0 mZ 607 ls [])) : W pZ l eZ room_1 sZ mZ #[Value.ref b] belowZ methZ cZ H locs cells slots Q (F0 mZ 517 ls []) := by
  obtain ⟨ord, ns, e, ln, wd, KO, KU, fL, fR, f1, f2, f3, fe, x0, x1, cf, cg, xf, yf, ev, y0, y1, ge, gL, gW, ga, gb, gf, lim, hP, hD, hS, hpu⟩ := hI
  have hpu0 := hpu
  obtain ⟨⟨ho, hns, hE, hKO, hKU⟩, hSt, hMm, hH, ⟨hfe, hge⟩, hlO, hlU⟩ := hpu0
  obtain ⟨hL0, hW⟩ := hSt ns (Nat.le_refl _)
  obtain ⟨hG0, hl8, hGW, hWd⟩ := hMm ns (Nat.le_refl _)
  have hB := rwS_bd hns hMm
  have hF : sgFlat (rwS ln wd ns) := sgRaw_flat ln wd ns
  by_cases hv : (0 ≤ (xs (i + 1)).toInt ∧ (xs (i + 1)).toInt < 7) ∧ 0 ≤ (xs (i + 2)).toInt ∧ (xs (i + 2)).toInt < 7
  · obtain ⟨a, ha, ea⟩ := sg_num (x := xs (i + 1)) (lo := 0) (hi := 6) (by omega) (by omega)
    obtain ⟨bb, hbb, ebb⟩ := sg_num (x := xs (i + 2)) (lo := 0) (hi := 6) (by omega) (by omega)
    have hb0 := sgO_bd hB ho.2 hE a bb 0
    refine lv_aload_n hx hb dL_law_517 rfl (lv_at hl 2 rfl) ?_
    refine lv_aload_n hx hb dL_law_518 rfl (lv_at hl 3 rfl) ?_
    refine lv_iload_n hx hb dL_law_519 rfl (lv_at hl 0 rfl) ?_
    refine lv_iconst (v := nI 1) hx hb dL_law_520 (by decide) ?_
    refine n_iadd hx hb dL_law_521 ?_
    refine n_sld (v := nI a) hx hb hX hbl hbA hS (by omega) (by omega) ea dL_law_522 ?_
    refine lv_aload_n hx hb dL_law_523 rfl (lv_at hl 3 rfl) ?_
    refine lv_iload_n hx hb dL_law_524 rfl (lv_at hl 0 rfl) ?_
    refine lv_iconst (v := nI 2) hx hb dL_law_525 (by decide) ?_
    refine n_iadd hx hb dL_law_526 ?_
    refine n_sld (v := nI bb) hx hb hX hbl hbA hS (by omega) (by omega) ebb dL_law_527 ?_
    refine sg_callWi (fun u528 => (rw9 ra cI fR ++ [(z, .inr (5, [.ref (ax 0), .ref (ax 3), .ref (ax 7), .ref (ax 8), .ref (ax 9), .ref (ax 14), .ref (ax 19), .ref (ax 21)])), ((ax 0), .inr (4, [.ref (ax 1), .ref (ax 2), .int (nI ns)])), ((ax 1), .inl (cO, 9, .inr (.inr (.inr (.inr (fun j => some (ra j))))))), ((ax 2), .inl (cI, 9, .inl fL)), ((ax 3), .inr (1, [.ref (ax 4), .ref (ax 5), .ref (ax 6), .int (nI ord)])), ((ax 4), .inl (cI, 7, .inl f1)), ((ax 5), .inl (cI, 49, .inl f2)), ((ax 6), .inl (cI, 343, .inl f3)), ((ax 7), .inl (cI, 4, .inl fe)), ((ax 8), .inr (0, [.long u528.1, .long u528.2])), ((ax 9), .inr (3, [.ref (ax 10), .ref (ax 12)])), ((ax 10), .inr (2, [.ref (ax 11)])), ((ax 11), .inl (cI, 9, .inl cf)), ((ax 12), .inr (2, [.ref (ax 13)])), ((ax 13), .inl (cI, 9, .inl cg)), ((ax 14), .inr (3, [.ref (ax 15), .ref (ax 17)])), ((ax 15), .inr (2, [.ref (ax 16)])), ((ax 16), .inl (cI, 9, .inl (dF KO))), ((ax 17), .inr (2, [.ref (ax 18)])), ((ax 18), .inl (cI, 9, .inl (dF KU))), ((ax 19), .inr (2, [.ref (ax 20)])), ((ax 20), .inl (cI, 18, .inl xf)), ((ax 21), .inr (2, [.ref (ax 22)])), ((ax 22), .inl (cI, 18, .inl yf)), (mz, .inr (6, [.int (nI ord), .ref (am 0), .int (nI ns), .ref (am 1), .ref (am 2), .int ev, .ref (am 3), .ref (am 4), .ref (am 5), .long y0, .long y1, .ref (am 6)])), ((am 0), .inl (cI, 4, .inl ge)), ((am 1), .inl (cI, 9, .inl gL)), ((am 2), .inl (cI, 72, .inl gW)), ((am 3), .inl (cI, 72, .inl ga)), ((am 4), .inl (cI, 72, .inl gb)), ((am 5), .inl (cI, 72, .inl gf)), ((am 6), .inl (cI, 240, .inl lim))])) [(false, 0), (false, 1), (false, 2), (false, 3), (false, 4), (false, 5), (false, 6), (false, 7), (false, 8), (true, 0), (false, 10), (false, 11), (false, 12), (true, 1), (true, 2), (true, 3), (true, 4), (true, 5), (true, 6), (false, 19), (false, 20), (false, 21), (false, 22), (false, 23), (false, 24), (false, 25), (false, 26), (false, 27), (false, 28), (false, 29), (false, 30), (false, 31), (false, 32), (false, 33), (false, 34), (false, 35), (false, 36), (false, 37), (false, 38), (false, 39), (false, 40)] (va_runV (As := [.int (nI a), .int (nI bb)]) (rest := []) (C := RX5) ⟨hx, hb, hml, hown, hts⟩ (c_X5_likeliest l D cI cO z (ax 0) (ax 3) (ax 7) (ax 8) (ax 9) (ax 14) (ax 19) (ax 21) (ax 4) (ax 5) (ax 6) ord f1 f2 f3 fe x0 x1 (rwS ln wd ns) e a bb hH hF hB (by omega) hE hfe (by omega) (by omega)) ⟨(sg_cB 2 hts mcX5_likeliest ml_L_73 in_X5 rfl rfl (by decide +kernel) ⟨Nat.le_of_ble_eq_true rfl, Nat.le_of_ble_eq_true rfl⟩), hts _ im_X5_likeliest, hts _ se_X5_likeliest⟩ (sg_wV (q0 := 9) hK hP hD [9, 13, 14, 15, 16, 17, 18] (by decide) rfl rfl rfl rfl) rfl rfl hl.1 rfl (lv_room (Nat.le_of_ble_eq_true rfl)) dL_law_528 ⟨hce, hsl⟩) hP hD hS [9, 13, 14, 15, 16, 17, 18] rfl (fun _ => rfl) (by decide) (fun _ => rfl) (fun r528 u528 H locs hw528 hP hD hS => ?_)
    subst hw528
    refine sw_i (y := nI (sgLk (fun w => sgO (rwS ln wd ns) ord e a bb w) (fun w => sgU (rwS ln wd ns) ord e a bb w) 5 1 0 (sgO (rwS ln wd ns) ord e a bb 0) (sgU (rwS ln wd ns) ord e a bb 0))) (congrArg nI (sgLk_start (o := (fun w => sgO (rwS ln wd ns) ord e a bb w)) (u := (fun w => sgU (rwS ln wd ns) ord e a bb w)) hb0.1 5)) ?_
    refine lv_aload_n hx hb dL_law_531 rfl (lv_at hl 1 rfl) ?_
    refine lv_aload_n hx hb dL_law_532 rfl (lv_at hl 3 rfl) ?_
    refine lv_iload_n hx hb dL_law_533 rfl (lv_at hl 0 rfl) ?_
    refine lv_iconst (v := nI 1) hx hb dL_law_534 (by decide) ?_
    refine n_iadd hx hb dL_law_535 ?_
    refine n_sld (v := nI a) hx hb hX hbl hbA hS (by omega) (by omega) ea dL_law_536 ?_
    refine lv_aload_n hx hb dL_law_537 rfl (lv_at hl 3 rfl) ?_
    refine lv_iload_n hx hb dL_law_538 rfl (lv_at hl 0 rfl) ?_
    refine lv_iconst (v := nI 2) hx hb dL_law_539 (by decide) ?_
    refine n_iadd hx hb dL_law_540 ?_
    refine n_sld (v := nI bb) hx hb hX hbl hbA hS (by omega) (by omega) ebb dL_law_541 ?_
    refine sg_callWi (fun u542 => (rw9 ra cI fR ++ [(z, .inr (5, [.ref (ax 0), .ref (ax 3), .ref (ax 7), .ref (ax 8), .ref (ax 9), .ref (ax 14), .ref (ax 19), .ref (ax 21)])), ((ax 0), .inr (4, [.ref (ax 1), .ref (ax 2), .int (nI ns)])), ((ax 1), .inl (cO, 9, .inr (.inr (.inr (.inr (fun j => some (ra j))))))), ((ax 2), .inl (cI, 9, .inl fL)), ((ax 3), .inr (1, [.ref (ax 4), .ref (ax 5), .ref (ax 6), .int (nI ord)])), ((ax 4), .inl (cI, 7, .inl f1)), ((ax 5), .inl (cI, 49, .inl f2)), ((ax 6), .inl (cI, 343, .inl f3)), ((ax 7), .inl (cI, 4, .inl fe)), ((ax 8), .inr (0, [.long u528.1, .long u528.2])), ((ax 9), .inr (3, [.ref (ax 10), .ref (ax 12)])), ((ax 10), .inr (2, [.ref (ax 11)])), ((ax 11), .inl (cI, 9, .inl cf)), ((ax 12), .inr (2, [.ref (ax 13)])), ((ax 13), .inl (cI, 9, .inl cg)), ((ax 14), .inr (3, [.ref (ax 15), .ref (ax 17)])), ((ax 15), .inr (2, [.ref (ax 16)])), ((ax 16), .inl (cI, 9, .inl (dF KO))), ((ax 17), .inr (2, [.ref (ax 18)])), ((ax 18), .inl (cI, 9, .inl (dF KU))), ((ax 19), .inr (2, [.ref (ax 20)])), ((ax 20), .inl (cI, 18, .inl xf)), ((ax 21), .inr (2, [.ref (ax 22)])), ((ax 22), .inl (cI, 18, .inl yf)), (mz, .inr (6, [.int (nI ord), .ref (am 0), .int (nI ns), .ref (am 1), .ref (am 2), .int (nI u542.1.1), .ref (am 3), .ref (am 4), .ref (am 5), .long u542.2.1, .long u542.2.2, .ref (am 6)])), ((am 0), .inl (cI, 4, .inl ge)), ((am 1), .inl (cI, 9, .inl gL)), ((am 2), .inl (cI, 72, .inl gW)), ((am 3), .inl (cI, 72, .inl u542.1.2.1)), ((am 4), .inl (cI, 72, .inl u542.1.2.2.1)), ((am 5), .inl (cI, 72, .inl u542.1.2.2.2)), ((am 6), .inl (cI, 240, .inl lim))])) [(false, 0), (false, 1), (false, 2), (false, 3), (false, 4), (false, 5), (false, 6), (false, 7), (false, 8), (false, 9), (false, 10), (false, 11), (false, 12), (false, 13), (false, 14), (false, 15), (false, 16), (false, 17), (false, 18), (false, 19), (false, 20), (false, 21), (false, 22), (false, 23), (false, 24), (false, 25), (false, 26), (false, 27), (false, 28), (false, 29), (false, 30), (false, 31), (false, 32), (true, 0), (true, 1), (true, 2), (true, 3), (true, 4), (true, 5), (true, 6), (true, 7)] (va_runV (As := [.int (nI a), .int (nI bb)]) (rest := [.int (nI (sgLk (fun w => sgO (rwS ln wd ns) ord e a bb w) (fun w => sgU (rwS ln wd ns) ord e a bb w) 5 1 0 (sgO (rwS ln wd ns) ord e a bb 0) (sgU (rwS ln wd ns) ord e a bb 0)))]) (C := RX6) ⟨hx, hb, hml, hown, hts⟩ (c_X6_likeliest l D cI cO mz (am 0) (am 1) (am 2) (am 3) (am 4) (am 5) (am 6) ord ns ev y0 y1 ge gL gW ga gb gf lim ln wd e a bb (by omega) hMm (by omega) hE hge (by omega) (by omega)) ⟨(sg_cB 2 hts mcX6_likeliest ml_L_76 in_X6 rfl rfl (by decide +kernel) ⟨Nat.le_of_ble_eq_true rfl, Nat.le_of_ble_eq_true rfl⟩), hts _ im_X6_likeliest, hts _ se_X6_likeliest⟩ (sg_wV (q0 := 33) hK hP hD [33, 34, 35, 36, 37, 38, 39, 40] (by decide) rfl rfl rfl rfl) rfl rfl hl.1 rfl (lv_room (Nat.le_of_ble_eq_true rfl)) dL_law_542 ⟨hce, hsl⟩) hP hD hS [33, 34, 35, 36, 37, 38, 39, 40] rfl (fun _ => rfl) (by decide) (fun _ => rfl) (fun r542 u542 H locs hw542 hP hD hS => ?_)
    subst hw542
    refine ci_same (tgt := 607) hx hb dL_law_545 rfl ?_
    exact kk _ _ ⟨ord, ns, e, ln, wd, KO, KU, fL, fR, f1, f2, f3, fe, u528.1, u528.2, cf, cg, xf, yf, nI u542.1.1, u542.2.1, u542.2.2, ge, gL, gW, u542.1.2.1, u542.1.2.2.1, u542.1.2.2.2, lim, hP, hD, hS, hpu⟩
  · skip
    refine lv_aload_n hx hb dL_law_517 rfl (lv_at hl 2 rfl) ?_
    refine lv_aload_n hx hb dL_law_518 rfl (lv_at hl 3 rfl) ?_
    refine lv_iload_n hx hb dL_law_519 rfl (lv_at hl 0 rfl) ?_
    refine lv_iconst (v := nI 1) hx hb dL_law_520 (by decide) ?_
    refine n_iadd hx hb dL_law_521 ?_
    refine n_sld (v := xs (i + 1)) hx hb hX hbl hbA hS (by omega) (by omega) rfl dL_law_522 ?_
    refine lv_aload_n hx hb dL_law_523 rfl (lv_at hl 3 rfl) ?_
    refine lv_iload_n hx hb dL_law_524 rfl (lv_at hl 0 rfl) ?_
    refine lv_iconst (v := nI 2) hx hb dL_law_525 (by decide) ?_
    refine n_iadd hx hb dL_law_526 ?_
    refine n_sld (v := xs (i + 2)) hx hb hX hbl hbA hS (by omega) (by omega) rfl dL_law_527 ?_
    refine sg_callRi (va_runV (As := [.int (xs (i + 1)), .int (xs (i + 2))]) (rest := []) (C := RX5) ⟨hx, hb, hml, hown, hts⟩ (c_likeliest_bad l D cI cO z (ax 0) (ax 3) (ax 7) (ax 8) (ax 9) (ax 14) (ax 19) (ax 21) (xs (i + 1)) (xs (i + 2)) (by omega)) ⟨(sg_cB 2 hts mcX5_likeliest ml_L_73 in_X5 rfl rfl (by decide +kernel) ⟨Nat.le_of_ble_eq_true rfl, Nat.le_of_ble_eq_true rfl⟩), hts _ im_X5_likeliest, hts _ se_X5_likeliest⟩ (sg_pV (q0 := 9) hK hP [9] rfl rfl rfl rfl) rfl rfl hl.1 rfl (lv_room (Nat.le_of_ble_eq_true rfl)) dL_law_528 ⟨hce, hsl⟩) ?_
    refine lv_aload_n hx hb dL_law_531 rfl (lv_at hl 1 rfl) ?_
    refine lv_aload_n hx hb dL_law_532 rfl (lv_at hl 3 rfl) ?_
    refine lv_iload_n hx hb dL_law_533 rfl (lv_at hl 0 rfl) ?_
    refine lv_iconst (v := nI 1) hx hb dL_law_534 (by decide) ?_
    refine n_iadd hx hb dL_law_535 ?_
    refine n_sld (v := xs (i + 1)) hx hb hX hbl hbA hS (by omega) (by omega) rfl dL_law_536 ?_
    refine lv_aload_n hx hb dL_law_537 rfl (lv_at hl 3 rfl) ?_
    refine lv_iload_n hx hb dL_law_538 rfl (lv_at hl 0 rfl) ?_
    refine lv_iconst (v := nI 2) hx hb dL_law_539 (by decide) ?_
    refine n_iadd hx hb dL_law_540 ?_
    refine n_sld (v := xs (i + 2)) hx hb hX hbl hbA hS (by omega) (by omega) rfl dL_law_541 ?_
    refine sg_callRi (va_runV (As := [.int (xs (i + 1)), .int (xs (i + 2))]) (rest := [.int (-1)]) (C := RX6) ⟨hx, hb, hml, hown, hts⟩ (r_likeliest_bad l D cI cO mz (am 0) (am 1) (am 2) (am 3) (am 4) (am 5) (am 6) ord ns ev y0 y1 ge gL gW ga gb gf lim (xs (i + 1)) (xs (i + 2)) (by omega)) ⟨(sg_cB 2 hts mcX6_likeliest ml_L_76 in_X6 rfl rfl (by decide +kernel) ⟨Nat.le_of_ble_eq_true rfl, Nat.le_of_ble_eq_true rfl⟩), hts _ im_X6_likeliest, hts _ se_X6_likeliest⟩ (sg_pV (q0 := 33) hK hP [33, 34, 35, 36, 37, 38, 39, 40] rfl rfl rfl rfl) rfl rfl hl.1 rfl (lv_room (Nat.le_of_ble_eq_true rfl)) dL_law_542 ⟨hce, hsl⟩) ?_
    refine ci_same (tgt := 607) hx hb dL_law_545 rfl ?_
    exact kk _ _ ⟨ord, ns, e, ln, wd, KO, KU, fL, fR, f1, f2, f3, fe, x0, x1, cf, cg, xf, yf, ev, y0, y1, ge, gL, gW, ga, gb, gf, lim, hP, hD, hS, hpu⟩

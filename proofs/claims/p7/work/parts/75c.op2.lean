set_option maxHeartbeats 4000000 in
set_option maxRecDepth 100000 in
theorem op_bestSwap {p : Program} {e : Env} {s : State} {m : MethodId} {below : List Frame} {meth : Method} {c : Code} (l : Launch) {b L : Nat} {xs : Nat → Int32} (C0 : lw_At p s m meth c b L xs) (g : zG) (hK : zK g s) (hN : zN s) {A : Nat → Prop} (hA : ∀ q, s.heap.size ≤ q → A q) (hA' : ∀ q, A q → s.heap.size ≤ q) (x0 m0 : Nat) (i : Int32) (hi : 0 ≤ i.toInt ∧ i.toInt ≤ 3066) (hiL : i.toInt + 5 < (L : Int)) (kk : ∀ (ad8b ad9b : Nat → Nat) (ct8b ct9b : Nat → va_E) (peb meb : Int32) (H : Heap) (locs : List Loc) (kq nq : Nat) (ls : Array Slot), ad8b 0 = x0 → ad9b 0 = m0 → zP g (zw 126 ad8b ct8b ++ zw 32 ad9b ct9b) H → va_D A (zw 126 ad8b ct8b ++ zw 32 ad9b ct9b) → va_S A s.heap H locs → Inv8 g ad8b peb ct8b → IR g ad9b meb ct9b → tieT ad8b ad9b → lwJ kq nq (zlen (ct8b 20)) → lv_has ls 4 [(0, .ref b), (1, .ref x0), (2, .ref m0), (3, .int i)] → W p l e room_1 s m #[Value.ref b] below meth c H locs kq nq (lw_Z below #[Value.ref b] s) (F0 m 1531 ls [])) (ad8 ad9 : Nat → Nat) (ct8 ct9 : Nat → va_E) (pe me : Int32) (H : Heap) (locs : List Loc) (kq nq : Nat) (ls : Array Slot) (hx0 : ad8 0 = x0) (hm0 : ad9 0 = m0) (hP : zP g (zw 126 ad8 ct8 ++ zw 32 ad9 ct9) H) (hD : va_D A (zw 126 ad8 ct8 ++ zw 32 ad9 ct9)) (hS : va_S A s.heap H locs) (hI8 : Inv8 g ad8 pe ct8) (hI9 : IR g ad9 me ct9) (hT : tieT ad8 ad9) (hJ : lwJ kq nq (zlen (ct8 20))) (hl : lv_has ls 4 [(0, .ref b), (1, .ref x0), (2, .ref m0), (3, .int i)]) : W p l e room_1 s m #[Value.ref b] below meth c H locs kq nq (lw_Z below #[Value.ref b] s) (F0 m 1323 ls []) := by
  obtain ⟨hx, hb, hr, hml, hown, hts, hX, hbl, hlocks, hgv⟩ := C0
  have hg : ∀ w ∈ zGW, w.before #[Value.ref b] s = true := fun w h => hts w (List.mem_filter.mp h).1
  have hown : s.vm.findClass RL = some m.cls := hown
  have hbA : ¬ A b := fun h => absurd (hA' b h) (Nat.not_le.mpr hbl)
  subst hx0
  subst hm0
  refine lv_aload_n hx hb dL_law_1323 rfl (lv_at hl 1 rfl) ?_
  refine lv_aload_n hx hb dL_law_1324 rfl (lv_at hl 0 rfl) ?_
  refine lv_iload_n hx hb dL_law_1325 rfl (lv_at hl 3 rfl) ?_
  refine lv_iconst (v := 1) hx hb dL_law_1326 (by decide) ?_
  refine lv_iadd hx hb dL_law_1327 ?_
  refine lv_topi (fun x1 ex1 => ?_)
  have tx1 : x1.toInt = i.toInt + 1 := by rw [ex1]; exact z_add rfl (by decide : (1 : Int32).toInt = 1) (by omega) (by omega)
  refine va_sld hx hb hX hbl hbA hS (z_in rfl (by omega) (by omega)) dL_law_1328 ?_
  refine lv_topi (fun y2 ey2 => ?_)
  refine lv_aload_n hx hb dL_law_1329 rfl (lv_at hl 0 rfl) ?_
  refine lv_iload_n hx hb dL_law_1330 rfl (lv_at hl 3 rfl) ?_
  refine lv_iconst (v := 2) hx hb dL_law_1331 (by decide) ?_
  refine lv_iadd hx hb dL_law_1332 ?_
  refine lv_topi (fun x3 ex3 => ?_)
  have tx3 : x3.toInt = i.toInt + 2 := by rw [ex3]; exact z_add rfl (by decide : (2 : Int32).toInt = 2) (by omega) (by omega)
  refine va_sld hx hb hX hbl hbA hS (z_in rfl (by omega) (by omega)) dL_law_1333 ?_
  refine lv_topi (fun y4 ey4 => ?_)
  refine lv_aload_n hx hb dL_law_1334 rfl (lv_at hl 0 rfl) ?_
  refine lv_iload_n hx hb dL_law_1335 rfl (lv_at hl 3 rfl) ?_
  refine lv_iconst (v := 3) hx hb dL_law_1336 (by decide) ?_
  refine lv_iadd hx hb dL_law_1337 ?_
  refine lv_topi (fun x5 ex5 => ?_)
  have tx5 : x5.toInt = i.toInt + 3 := by rw [ex5]; exact z_add rfl (by decide : (3 : Int32).toInt = 3) (by omega) (by omega)
  refine va_sld hx hb hX hbl hbA hS (z_in rfl (by omega) (by omega)) dL_law_1338 ?_
  refine lv_topi (fun y6 ey6 => ?_)
  have hjb := lwJ_b hJ
  have hPc := zP_l hP
  have hDc := zD_l hD
  have hFc := zw_free hDc hS hA
  obtain ⟨z8, z9, q10, q11, q12, hs13⟩ := a8_0 hI8
  refine va_calli (va_runV (As := [.int y2, .int y4, .int y6]) (rest := []) ⟨hx, hb, hml, hown, hg⟩ (zs_i hI8 (k_X8_bestSwap l g _ ad8 pe ct8 y2 y4 y6 hI8)) (cwV 3 hg (z_gV mm_905 mm_906 mm_907 mm_108 mm_908) rfl rfl rfl (by decide +kernel) ⟨Nat.le_of_ble_eq_true rfl, Nat.le_of_ble_eq_true rfl⟩) ⟨(zA.pre [.ref (ad8 0), .int y2, .int y4, .int y6] hPc hK hDc hN).1, va_recv hK hPc (ci := 8) (q0 := 0) rfl (zw_at (by omega) hs13), (zA.pre [.ref (ad8 0), .int y2, .int y4, .int y6] hPc hK hDc hN).2⟩ rfl rfl hl.1 rfl (lv_room (Nat.le_of_ble_eq_true rfl)) dL_law_1339 ⟨(show kq + 0 ≤ 600000 by omega), (show nq + 0 ≤ 7302250 by omega)⟩) hS (fun q _ h => hFc q h) hFc (fun r14 u15 t H1 locs ht hvm hr14 hB hz1 hk1 hS => ?_)
  obtain ⟨⟨ct16, hP1, hD1, hI8⟩, hzs⟩ := hB
  rw [ht] at hP1 hzs
  have hzl := hzs.eq hP1 hI8
  rw [← hzl] at hJ
  obtain ⟨hP, hD⟩ := z_two hP hD hk1 hFc hP1 hD1
  generalize H1 = H at hP hS ⊢
  refine W.widen (k := kq) (n := nq) (Nat.le_refl _) (Nat.le_refl _) ?_
  refine lv_pop hx hb dL_law_1342 rfl ?_
  refine lv_aload_n hx hb dL_law_1343 rfl (lv_at hl 2 rfl) ?_
  refine lv_aload_n hx hb dL_law_1344 rfl (lv_at hl 0 rfl) ?_
  refine lv_iload_n hx hb dL_law_1345 rfl (lv_at hl 3 rfl) ?_
  refine lv_iconst (v := 1) hx hb dL_law_1346 (by decide) ?_
  refine lv_iadd hx hb dL_law_1347 ?_
  refine lv_topi (fun x17 ex17 => ?_)
  obtain rfl : x1 = x17 := ex1.trans ex17.symm
  refine va_sld hx hb hX hbl hbA hS (z_in rfl (by omega) (by omega)) dL_law_1348 ?_
  refine lv_topi (fun y18 ey18 => ?_)
  obtain rfl : y2 = y18 := ey2.trans ey18.symm
  refine lv_aload_n hx hb dL_law_1349 rfl (lv_at hl 0 rfl) ?_
  refine lv_iload_n hx hb dL_law_1350 rfl (lv_at hl 3 rfl) ?_
  refine lv_iconst (v := 2) hx hb dL_law_1351 (by decide) ?_
  refine lv_iadd hx hb dL_law_1352 ?_
  refine lv_topi (fun x19 ex19 => ?_)
  obtain rfl : x3 = x19 := ex3.trans ex19.symm
  refine va_sld hx hb hX hbl hbA hS (z_in rfl (by omega) (by omega)) dL_law_1353 ?_
  refine lv_topi (fun y20 ey20 => ?_)
  obtain rfl : y4 = y20 := ey4.trans ey20.symm
  refine lv_aload_n hx hb dL_law_1354 rfl (lv_at hl 0 rfl) ?_
  refine lv_iload_n hx hb dL_law_1355 rfl (lv_at hl 3 rfl) ?_
  refine lv_iconst (v := 3) hx hb dL_law_1356 (by decide) ?_
  refine lv_iadd hx hb dL_law_1357 ?_
  refine lv_topi (fun x21 ex21 => ?_)
  obtain rfl : x5 = x21 := ex5.trans ex21.symm
  refine va_sld hx hb hX hbl hbA hS (z_in rfl (by omega) (by omega)) dL_law_1358 ?_
  refine lv_topi (fun y22 ey22 => ?_)
  obtain rfl : y6 = y22 := ey6.trans ey22.symm
  have hjb := lwJ_b hJ
  have hPs := z_swapP hP
  have hDs := z_swapD hD
  have hPc := zP_l hPs
  have hDc := zD_l hDs
  have hFc := zw_free hDc hS hA
  obtain ⟨z24, z25, z26, z27, z28, z29, z30, z31, z32, z33, z34, z35, z36, z37, z38, q39, q40, q41, q42, q43, q44, q45, q46, q47, q48, q49, q50, q51, q52, q53, q54, q55, q56, q57, q58, hs59⟩ := a9_0 hI9.1
  refine va_calli (va_runV (As := [.int y2, .int y4, .int y6]) (rest := []) ⟨hx, hb, hml, hown, hg⟩ (k_X9_bestSwap l g _ ad9 me ct9 y2 y4 y6 hI9) (cwV 3 hg (z_gV mm_1460 mm_1461 mm_1462 mm_117 mm_1463) rfl rfl rfl (by decide +kernel) ⟨Nat.le_of_ble_eq_true rfl, Nat.le_of_ble_eq_true rfl⟩) ⟨(zA.pre [.ref (ad9 0), .int y2, .int y4, .int y6] hPc hK hDc hN).1, va_recv hK hPc (ci := 9) (q0 := 0) rfl (zw_at (by omega) hs59), (zA.pre [.ref (ad9 0), .int y2, .int y4, .int y6] hPc hK hDc hN).2⟩ rfl rfl hl.1 rfl (lv_room (Nat.le_of_ble_eq_true rfl)) dL_law_1359 ⟨(show kq + 0 ≤ 600000 by omega), (show nq + 0 ≤ 7302250 by omega)⟩) hS (fun q _ h => hFc q h) hFc (fun r60 u61 t H1 locs ht hvm hr60 hB hz1 hk1 hS => ?_)
  obtain ⟨ct62, hP1, hD1, hI9⟩ := hB
  rw [ht] at hP1
  obtain ⟨hP, hD⟩ := z_two hPs hDs hk1 hFc hP1 hD1
  have hP := z_swapP hP
  have hD := z_swapD hD
  generalize H1 = H at hP hS ⊢
  refine W.widen (k := kq) (n := nq) (Nat.le_refl _) (Nat.le_refl _) ?_
  refine lv_pop hx hb dL_law_1362 rfl ?_
  refine lv_goto (tgt := 1531) hx hb dL_law_1363 (by decide) ?_
  exact kk ad8 ad9 ct16 ct62 pe me _ _ kq nq ls rfl rfl hP hD hS hI8 hI9 hT hJ (lv_sub hl [0, 1, 2, 3] rfl)

set_option maxHeartbeats 4000000 in
set_option maxRecDepth 100000 in
theorem op_together {p : Program} {e : Env} {s : State} {m : MethodId} {below : List Frame} {meth : Method} {c : Code} (l : Launch) {b L : Nat} {xs : Nat → Int32} (C0 : lw_At p s m meth c b L xs) (g : zG) (hK : zK g s) (hN : zN s) {A : Nat → Prop} (hA : ∀ q, s.heap.size ≤ q → A q) (hA' : ∀ q, A q → s.heap.size ≤ q) (x0 m0 : Nat) (i : Int32) (hi : 0 ≤ i.toInt ∧ i.toInt ≤ 3066) (hiL : i.toInt + 5 < (L : Int)) (kk : ∀ (ad8b ad9b : Nat → Nat) (ct8b ct9b : Nat → va_E) (peb meb : Int32) (H : Heap) (locs : List Loc) (kq nq : Nat) (ls : Array Slot), ad8b 0 = x0 → ad9b 0 = m0 → zP g (zw 126 ad8b ct8b ++ zw 32 ad9b ct9b) H → va_D A (zw 126 ad8b ct8b ++ zw 32 ad9b ct9b) → va_S A s.heap H locs → Inv8 g ad8b peb ct8b → IR g ad9b meb ct9b → tieT ad8b ad9b → lwJ kq nq (zlen (ct8b 20)) → lv_has ls 4 [(0, .ref b), (1, .ref x0), (2, .ref m0), (3, .int i)] → W p l e room_1 s m #[Value.ref b] below meth c H locs kq nq (lw_Z below #[Value.ref b] s) (F0 m 1531 ls [])) (ad8 ad9 : Nat → Nat) (ct8 ct9 : Nat → va_E) (pe me : Int32) (H : Heap) (locs : List Loc) (kq nq : Nat) (ls : Array Slot) (hx0 : ad8 0 = x0) (hm0 : ad9 0 = m0) (hP : zP g (zw 126 ad8 ct8 ++ zw 32 ad9 ct9) H) (hD : va_D A (zw 126 ad8 ct8 ++ zw 32 ad9 ct9)) (hS : va_S A s.heap H locs) (hI8 : Inv8 g ad8 pe ct8) (hI9 : IR g ad9 me ct9) (hT : tieT ad8 ad9) (hJ : lwJ kq nq (zlen (ct8 20))) (hl : lv_has ls 4 [(0, .ref b), (1, .ref x0), (2, .ref m0), (3, .int i)]) : W p l e room_1 s m #[Value.ref b] below meth c H locs kq nq (lw_Z below #[Value.ref b] s) (F0 m 1366 ls []) := by
  obtain ⟨hx, hb, hr, hml, hown, hts, hX, hbl, hlocks, hgv⟩ := C0
  have hg : ∀ w ∈ zGW, w.before #[Value.ref b] s = true := fun w h => hts w (List.mem_filter.mp h).1
  have hown : s.vm.findClass RL = some m.cls := hown
  have hbA : ¬ A b := fun h => absurd (hA' b h) (Nat.not_le.mpr hbl)
  subst hx0
  subst hm0
  refine lv_aload_n hx hb dL_law_1366 rfl (lv_at hl 1 rfl) ?_
  refine lv_aload_n hx hb dL_law_1367 rfl (lv_at hl 0 rfl) ?_
  refine lv_iload_n hx hb dL_law_1368 rfl (lv_at hl 3 rfl) ?_
  refine lv_iconst (v := 1) hx hb dL_law_1369 (by decide) ?_
  refine lv_iadd hx hb dL_law_1370 ?_
  refine lv_topi (fun x1 ex1 => ?_)
  have tx1 : x1.toInt = i.toInt + 1 := by rw [ex1]; exact z_add rfl (by decide : (1 : Int32).toInt = 1) (by omega) (by omega)
  refine va_sld hx hb hX hbl hbA hS (z_in rfl (by omega) (by omega)) dL_law_1371 ?_
  refine lv_topi (fun y2 ey2 => ?_)
  refine lv_aload_n hx hb dL_law_1372 rfl (lv_at hl 0 rfl) ?_
  refine lv_iload_n hx hb dL_law_1373 rfl (lv_at hl 3 rfl) ?_
  refine lv_iconst (v := 2) hx hb dL_law_1374 (by decide) ?_
  refine lv_iadd hx hb dL_law_1375 ?_
  refine lv_topi (fun x3 ex3 => ?_)
  have tx3 : x3.toInt = i.toInt + 2 := by rw [ex3]; exact z_add rfl (by decide : (2 : Int32).toInt = 2) (by omega) (by omega)
  refine va_sld hx hb hX hbl hbA hS (z_in rfl (by omega) (by omega)) dL_law_1376 ?_
  refine lv_topi (fun y4 ey4 => ?_)
  have hjb := lwJ_b hJ
  have hPc := zP_l hP
  have hDc := zD_l hD
  have hFc := zw_free hDc hS hA
  obtain ⟨z6, z7, q8, q9, q10, hs11⟩ := a8_0 hI8
  refine va_calli (va_runV (As := [.int y2, .int y4]) (rest := []) ⟨hx, hb, hml, hown, hg⟩ (zs_i hI8 (k_X8_together l g _ ad8 pe ct8 y2 y4 hI8)) (cwV 2 hg (z_gV mm_914 mm_915 mm_916 mm_108 mm_917) rfl rfl rfl (by decide +kernel) ⟨Nat.le_of_ble_eq_true rfl, Nat.le_of_ble_eq_true rfl⟩) ⟨(zA.pre [.ref (ad8 0), .int y2, .int y4] hPc hK hDc hN).1, va_recv hK hPc (ci := 8) (q0 := 0) rfl (zw_at (by omega) hs11), (zA.pre [.ref (ad8 0), .int y2, .int y4] hPc hK hDc hN).2⟩ rfl rfl hl.1 rfl (lv_room (Nat.le_of_ble_eq_true rfl)) dL_law_1377 ⟨(show kq + 0 ≤ 600000 by omega), (show nq + 0 ≤ 7302250 by omega)⟩) hS (fun q _ h => hFc q h) hFc (fun r12 u13 t H1 locs ht hvm hr12 hB hz1 hk1 hS => ?_)
  obtain ⟨⟨ct14, hP1, hD1, hI8⟩, hzs⟩ := hB
  rw [ht] at hP1 hzs
  have hzl := hzs.eq hP1 hI8
  rw [← hzl] at hJ
  obtain ⟨hP, hD⟩ := z_two hP hD hk1 hFc hP1 hD1
  generalize H1 = H at hP hS ⊢
  refine W.widen (k := kq) (n := nq) (Nat.le_refl _) (Nat.le_refl _) ?_
  refine lv_pop hx hb dL_law_1380 rfl ?_
  refine lv_aload_n hx hb dL_law_1381 rfl (lv_at hl 2 rfl) ?_
  refine lv_aload_n hx hb dL_law_1382 rfl (lv_at hl 0 rfl) ?_
  refine lv_iload_n hx hb dL_law_1383 rfl (lv_at hl 3 rfl) ?_
  refine lv_iconst (v := 1) hx hb dL_law_1384 (by decide) ?_
  refine lv_iadd hx hb dL_law_1385 ?_
  refine lv_topi (fun x15 ex15 => ?_)
  obtain rfl : x1 = x15 := ex1.trans ex15.symm
  refine va_sld hx hb hX hbl hbA hS (z_in rfl (by omega) (by omega)) dL_law_1386 ?_
  refine lv_topi (fun y16 ey16 => ?_)
  obtain rfl : y2 = y16 := ey2.trans ey16.symm
  refine lv_aload_n hx hb dL_law_1387 rfl (lv_at hl 0 rfl) ?_
  refine lv_iload_n hx hb dL_law_1388 rfl (lv_at hl 3 rfl) ?_
  refine lv_iconst (v := 2) hx hb dL_law_1389 (by decide) ?_
  refine lv_iadd hx hb dL_law_1390 ?_
  refine lv_topi (fun x17 ex17 => ?_)
  obtain rfl : x3 = x17 := ex3.trans ex17.symm
  refine va_sld hx hb hX hbl hbA hS (z_in rfl (by omega) (by omega)) dL_law_1391 ?_
  refine lv_topi (fun y18 ey18 => ?_)
  obtain rfl : y4 = y18 := ey4.trans ey18.symm
  have hjb := lwJ_b hJ
  have hPs := z_swapP hP
  have hDs := z_swapD hD
  have hPc := zP_l hPs
  have hDc := zD_l hDs
  have hFc := zw_free hDc hS hA
  obtain ⟨z20, z21, z22, z23, z24, z25, z26, z27, z28, z29, z30, z31, z32, z33, z34, q35, q36, q37, q38, q39, q40, q41, q42, q43, q44, q45, q46, q47, q48, q49, q50, q51, q52, q53, q54, hs55⟩ := a9_0 hI9.1
  refine va_calli (va_runV (As := [.int y2, .int y4]) (rest := []) ⟨hx, hb, hml, hown, hg⟩ (k_X9_together l g _ ad9 me ct9 y2 y4 hI9) (cwV 2 hg (z_gV mm_1464 mm_1465 mm_1466 mm_117 mm_1467) rfl rfl rfl (by decide +kernel) ⟨Nat.le_of_ble_eq_true rfl, Nat.le_of_ble_eq_true rfl⟩) ⟨(zA.pre [.ref (ad9 0), .int y2, .int y4] hPc hK hDc hN).1, va_recv hK hPc (ci := 9) (q0 := 0) rfl (zw_at (by omega) hs55), (zA.pre [.ref (ad9 0), .int y2, .int y4] hPc hK hDc hN).2⟩ rfl rfl hl.1 rfl (lv_room (Nat.le_of_ble_eq_true rfl)) dL_law_1392 ⟨(show kq + 0 ≤ 600000 by omega), (show nq + 0 ≤ 7302250 by omega)⟩) hS (fun q _ h => hFc q h) hFc (fun r56 u57 t H1 locs ht hvm hr56 hB hz1 hk1 hS => ?_)
  obtain ⟨ct58, hP1, hD1, hI9⟩ := hB
  rw [ht] at hP1
  obtain ⟨hP, hD⟩ := z_two hPs hDs hk1 hFc hP1 hD1
  have hP := z_swapP hP
  have hD := z_swapD hD
  generalize H1 = H at hP hS ⊢
  refine W.widen (k := kq) (n := nq) (Nat.le_refl _) (Nat.le_refl _) ?_
  refine lv_pop hx hb dL_law_1395 rfl ?_
  refine lv_goto (tgt := 1531) hx hb dL_law_1396 (by decide) ?_
  exact kk ad8 ad9 ct14 ct58 pe me _ _ kq nq ls rfl rfl hP hD hS hI8 hI9 hT hJ (lv_sub hl [0, 1, 2, 3] rfl)

set_option maxHeartbeats 4000000 in
set_option maxRecDepth 100000 in
theorem op_loss {p : Program} {e : Env} {s : State} {m : MethodId} {below : List Frame} {meth : Method} {c : Code} (l : Launch) {b L : Nat} {xs : Nat → Int32} (C0 : lw_At p s m meth c b L xs) (g : zG) (hK : zK g s) (hN : zN s) {A : Nat → Prop} (hA : ∀ q, s.heap.size ≤ q → A q) (hA' : ∀ q, A q → s.heap.size ≤ q) (x0 m0 : Nat) (i : Int32) (hi : 0 ≤ i.toInt ∧ i.toInt ≤ 3066) (hiL : i.toInt + 5 < (L : Int)) (kk : ∀ (ad8b ad9b : Nat → Nat) (ct8b ct9b : Nat → va_E) (peb meb : Int32) (H : Heap) (locs : List Loc) (kq nq : Nat) (ls : Array Slot), ad8b 0 = x0 → ad9b 0 = m0 → zP g (zw 126 ad8b ct8b ++ zw 32 ad9b ct9b) H → va_D A (zw 126 ad8b ct8b ++ zw 32 ad9b ct9b) → va_S A s.heap H locs → Inv8 g ad8b peb ct8b → IR g ad9b meb ct9b → tieT ad8b ad9b → lwJ kq nq (zlen (ct8b 20)) → lv_has ls 4 [(0, .ref b), (1, .ref x0), (2, .ref m0), (3, .int i)] → W p l e room_1 s m #[Value.ref b] below meth c H locs kq nq (lw_Z below #[Value.ref b] s) (F0 m 1531 ls [])) (ad8 ad9 : Nat → Nat) (ct8 ct9 : Nat → va_E) (pe me : Int32) (H : Heap) (locs : List Loc) (kq nq : Nat) (ls : Array Slot) (hx0 : ad8 0 = x0) (hm0 : ad9 0 = m0) (hP : zP g (zw 126 ad8 ct8 ++ zw 32 ad9 ct9) H) (hD : va_D A (zw 126 ad8 ct8 ++ zw 32 ad9 ct9)) (hS : va_S A s.heap H locs) (hI8 : Inv8 g ad8 pe ct8) (hI9 : IR g ad9 me ct9) (hT : tieT ad8 ad9) (hJ : lwJ kq nq (zlen (ct8 20))) (hl : lv_has ls 4 [(0, .ref b), (1, .ref x0), (2, .ref m0), (3, .int i)]) : W p l e room_1 s m #[Value.ref b] below meth c H locs kq nq (lw_Z below #[Value.ref b] s) (F0 m 1399 ls []) := by
  obtain ⟨hx, hb, hr, hml, hown, hts, hX, hbl, hlocks, hgv⟩ := C0
  have hg : ∀ w ∈ zGW, w.before #[Value.ref b] s = true := fun w h => hts w (List.mem_filter.mp h).1
  have hown : s.vm.findClass RL = some m.cls := hown
  have hbA : ¬ A b := fun h => absurd (hA' b h) (Nat.not_le.mpr hbl)
  subst hx0
  subst hm0
  refine lv_aload_n hx hb dL_law_1399 rfl (lv_at hl 1 rfl) ?_
  refine lv_aload_n hx hb dL_law_1400 rfl (lv_at hl 0 rfl) ?_
  refine lv_iload_n hx hb dL_law_1401 rfl (lv_at hl 3 rfl) ?_
  refine lv_iconst (v := 1) hx hb dL_law_1402 (by decide) ?_
  refine lv_iadd hx hb dL_law_1403 ?_
  refine lv_topi (fun x1 ex1 => ?_)
  have tx1 : x1.toInt = i.toInt + 1 := by rw [ex1]; exact z_add rfl (by decide : (1 : Int32).toInt = 1) (by omega) (by omega)
  refine va_sld hx hb hX hbl hbA hS (z_in rfl (by omega) (by omega)) dL_law_1404 ?_
  refine lv_topi (fun y2 ey2 => ?_)
  have hjb := lwJ_b hJ
  have hPc := zP_l hP
  have hDc := zD_l hD
  obtain ⟨z4, z5, q6, q7, q8, hs9⟩ := a8_0 hI8
  refine zc_i (va_runV (As := [.int y2]) (rest := []) ⟨hx, hb, hml, hown, hg⟩ (k_X8_loss l g ad8 pe ct8 y2 hI8) (cwV 1 hg (z_gV mm_922 mm_923 mm_924 mm_108 mm_925) rfl rfl rfl (by decide +kernel) ⟨Nat.le_of_ble_eq_true rfl, Nat.le_of_ble_eq_true rfl⟩) ⟨(zR.pre [.ref (ad8 0), .int y2] hPc hK hN).1, va_recv hK hPc (ci := 8) (q0 := 0) rfl (zw_at (by omega) hs9), (zR.pre [.ref (ad8 0), .int y2] hPc hK hN).2⟩ rfl rfl hl.1 rfl (lv_room (Nat.le_of_ble_eq_true rfl)) dL_law_1405 ⟨(show kq + 0 ≤ 600000 by omega), (show nq + 0 ≤ 7302250 by omega)⟩) (fun r10 hr10 => ?_)
  refine lv_pop hx hb dL_law_1408 rfl ?_
  refine lv_aload_n hx hb dL_law_1409 rfl (lv_at hl 2 rfl) ?_
  refine lv_aload_n hx hb dL_law_1410 rfl (lv_at hl 0 rfl) ?_
  refine lv_iload_n hx hb dL_law_1411 rfl (lv_at hl 3 rfl) ?_
  refine lv_iconst (v := 1) hx hb dL_law_1412 (by decide) ?_
  refine lv_iadd hx hb dL_law_1413 ?_
  refine lv_topi (fun x11 ex11 => ?_)
  obtain rfl : x1 = x11 := ex1.trans ex11.symm
  refine va_sld hx hb hX hbl hbA hS (z_in rfl (by omega) (by omega)) dL_law_1414 ?_
  refine lv_topi (fun y12 ey12 => ?_)
  obtain rfl : y2 = y12 := ey2.trans ey12.symm
  have hjb := lwJ_b hJ
  have hPs := z_swapP hP
  have hDs := z_swapD hD
  have hPc := zP_l hPs
  have hDc := zD_l hDs
  obtain ⟨z14, z15, z16, z17, z18, z19, z20, z21, z22, z23, z24, z25, z26, z27, z28, q29, q30, q31, q32, q33, q34, q35, q36, q37, q38, q39, q40, q41, q42, q43, q44, q45, q46, q47, q48, hs49⟩ := a9_0 hI9.1
  refine zc_i (va_runV (As := [.int y2]) (rest := []) ⟨hx, hb, hml, hown, hg⟩ (k_X9_loss l g ad9 me ct9 y2 hI9) (cwV 1 hg (z_gV mm_1472 mm_1473 mm_1474 mm_117 mm_1475) rfl rfl rfl (by decide +kernel) ⟨Nat.le_of_ble_eq_true rfl, Nat.le_of_ble_eq_true rfl⟩) ⟨(zR.pre [.ref (ad9 0), .int y2] hPc hK hN).1, va_recv hK hPc (ci := 9) (q0 := 0) rfl (zw_at (by omega) hs49), (zR.pre [.ref (ad9 0), .int y2] hPc hK hN).2⟩ rfl rfl hl.1 rfl (lv_room (Nat.le_of_ble_eq_true rfl)) dL_law_1415 ⟨(show kq + 0 ≤ 600000 by omega), (show nq + 0 ≤ 7302250 by omega)⟩) (fun r50 hr50 => ?_)
  refine lv_pop hx hb dL_law_1418 rfl ?_
  refine lv_goto (tgt := 1531) hx hb dL_law_1419 (by decide) ?_
  exact kk ad8 ad9 ct8 ct9 pe me _ _ kq nq ls rfl rfl hP hD hS hI8 hI9 hT hJ (lv_sub hl [0, 1, 2, 3] rfl)

set_option maxHeartbeats 4000000 in
set_option maxRecDepth 100000 in
theorem op_linesOf {p : Program} {e : Env} {s : State} {m : MethodId} {below : List Frame} {meth : Method} {c : Code} (l : Launch) {b L : Nat} {xs : Nat → Int32} (C0 : lw_At p s m meth c b L xs) (g : zG) (hK : zK g s) (hN : zN s) {A : Nat → Prop} (hA : ∀ q, s.heap.size ≤ q → A q) (hA' : ∀ q, A q → s.heap.size ≤ q) (x0 m0 : Nat) (i : Int32) (hi : 0 ≤ i.toInt ∧ i.toInt ≤ 3066) (hiL : i.toInt + 5 < (L : Int)) (kk : ∀ (ad8b ad9b : Nat → Nat) (ct8b ct9b : Nat → va_E) (peb meb : Int32) (H : Heap) (locs : List Loc) (kq nq : Nat) (ls : Array Slot), ad8b 0 = x0 → ad9b 0 = m0 → zP g (zw 126 ad8b ct8b ++ zw 32 ad9b ct9b) H → va_D A (zw 126 ad8b ct8b ++ zw 32 ad9b ct9b) → va_S A s.heap H locs → Inv8 g ad8b peb ct8b → IR g ad9b meb ct9b → tieT ad8b ad9b → lwJ kq nq (zlen (ct8b 20)) → lv_has ls 4 [(0, .ref b), (1, .ref x0), (2, .ref m0), (3, .int i)] → W p l e room_1 s m #[Value.ref b] below meth c H locs kq nq (lw_Z below #[Value.ref b] s) (F0 m 1531 ls [])) (ad8 ad9 : Nat → Nat) (ct8 ct9 : Nat → va_E) (pe me : Int32) (H : Heap) (locs : List Loc) (kq nq : Nat) (ls : Array Slot) (hx0 : ad8 0 = x0) (hm0 : ad9 0 = m0) (hP : zP g (zw 126 ad8 ct8 ++ zw 32 ad9 ct9) H) (hD : va_D A (zw 126 ad8 ct8 ++ zw 32 ad9 ct9)) (hS : va_S A s.heap H locs) (hI8 : Inv8 g ad8 pe ct8) (hI9 : IR g ad9 me ct9) (hT : tieT ad8 ad9) (hJ : lwJ kq nq (zlen (ct8 20))) (hl : lv_has ls 4 [(0, .ref b), (1, .ref x0), (2, .ref m0), (3, .int i)]) : W p l e room_1 s m #[Value.ref b] below meth c H locs kq nq (lw_Z below #[Value.ref b] s) (F0 m 1422 ls []) := by
  obtain ⟨hx, hb, hr, hml, hown, hts, hX, hbl, hlocks, hgv⟩ := C0
  have hg : ∀ w ∈ zGW, w.before #[Value.ref b] s = true := fun w h => hts w (List.mem_filter.mp h).1
  have hown : s.vm.findClass RL = some m.cls := hown
  have hbA : ¬ A b := fun h => absurd (hA' b h) (Nat.not_le.mpr hbl)
  subst hx0
  subst hm0
  refine lv_aload_n hx hb dL_law_1422 rfl (lv_at hl 1 rfl) ?_
  refine lv_aload_n hx hb dL_law_1423 rfl (lv_at hl 0 rfl) ?_
  refine lv_iload_n hx hb dL_law_1424 rfl (lv_at hl 3 rfl) ?_
  refine lv_iconst (v := 1) hx hb dL_law_1425 (by decide) ?_
  refine lv_iadd hx hb dL_law_1426 ?_
  refine lv_topi (fun x1 ex1 => ?_)
  have tx1 : x1.toInt = i.toInt + 1 := by rw [ex1]; exact z_add rfl (by decide : (1 : Int32).toInt = 1) (by omega) (by omega)
  refine va_sld hx hb hX hbl hbA hS (z_in rfl (by omega) (by omega)) dL_law_1427 ?_
  refine lv_topi (fun y2 ey2 => ?_)
  refine lv_aload_n hx hb dL_law_1428 rfl (lv_at hl 0 rfl) ?_
  refine lv_iload_n hx hb dL_law_1429 rfl (lv_at hl 3 rfl) ?_
  refine lv_iconst (v := 2) hx hb dL_law_1430 (by decide) ?_
  refine lv_iadd hx hb dL_law_1431 ?_
  refine lv_topi (fun x3 ex3 => ?_)
  have tx3 : x3.toInt = i.toInt + 2 := by rw [ex3]; exact z_add rfl (by decide : (2 : Int32).toInt = 2) (by omega) (by omega)
  refine va_sld hx hb hX hbl hbA hS (z_in rfl (by omega) (by omega)) dL_law_1432 ?_
  refine lv_topi (fun y4 ey4 => ?_)
  refine lv_aload_n hx hb dL_law_1433 rfl (lv_at hl 0 rfl) ?_
  refine lv_iload_n hx hb dL_law_1434 rfl (lv_at hl 3 rfl) ?_
  refine lv_iconst (v := 3) hx hb dL_law_1435 (by decide) ?_
  refine lv_iadd hx hb dL_law_1436 ?_
  refine lv_topi (fun x5 ex5 => ?_)
  have tx5 : x5.toInt = i.toInt + 3 := by rw [ex5]; exact z_add rfl (by decide : (3 : Int32).toInt = 3) (by omega) (by omega)
  refine va_sld hx hb hX hbl hbA hS (z_in rfl (by omega) (by omega)) dL_law_1437 ?_
  refine lv_topi (fun y6 ey6 => ?_)
  have hjb := lwJ_b hJ
  have hPc := zP_l hP
  have hDc := zD_l hD
  have hFc := zw_free hDc hS hA
  obtain ⟨z8, z9, q10, q11, q12, hs13⟩ := a8_0 hI8
  refine va_calli (va_runV (As := [.int y2, .int y4, .int y6]) (rest := []) ⟨hx, hb, hml, hown, hg⟩ (zs_i hI8 (k_X8_linesOf l g _ ad8 pe ct8 y2 y4 y6 hI8)) (cwV 3 hg (z_gV mm_930 mm_931 mm_932 mm_108 mm_933) rfl rfl rfl (by decide +kernel) ⟨Nat.le_of_ble_eq_true rfl, Nat.le_of_ble_eq_true rfl⟩) ⟨(zA.pre [.ref (ad8 0), .int y2, .int y4, .int y6] hPc hK hDc hN).1, va_recv hK hPc (ci := 8) (q0 := 0) rfl (zw_at (by omega) hs13), (zA.pre [.ref (ad8 0), .int y2, .int y4, .int y6] hPc hK hDc hN).2⟩ rfl rfl hl.1 rfl (lv_room (Nat.le_of_ble_eq_true rfl)) dL_law_1438 ⟨(show kq + 0 ≤ 600000 by omega), (show nq + 0 ≤ 7302250 by omega)⟩) hS (fun q _ h => hFc q h) hFc (fun r14 u15 t H1 locs ht hvm hr14 hB hz1 hk1 hS => ?_)
  obtain ⟨⟨ct16, hP1, hD1, hI8⟩, hzs⟩ := hB
  rw [ht] at hP1 hzs
  have hzl := hzs.eq hP1 hI8
  rw [← hzl] at hJ
  obtain ⟨hP, hD⟩ := z_two hP hD hk1 hFc hP1 hD1
  generalize H1 = H at hP hS ⊢
  refine W.widen (k := kq) (n := nq) (Nat.le_refl _) (Nat.le_refl _) ?_
  refine lv_pop hx hb dL_law_1441 rfl ?_
  refine lv_aload_n hx hb dL_law_1442 rfl (lv_at hl 2 rfl) ?_
  refine lv_aload_n hx hb dL_law_1443 rfl (lv_at hl 0 rfl) ?_
  refine lv_iload_n hx hb dL_law_1444 rfl (lv_at hl 3 rfl) ?_
  refine lv_iconst (v := 1) hx hb dL_law_1445 (by decide) ?_
  refine lv_iadd hx hb dL_law_1446 ?_
  refine lv_topi (fun x17 ex17 => ?_)
  obtain rfl : x1 = x17 := ex1.trans ex17.symm
  refine va_sld hx hb hX hbl hbA hS (z_in rfl (by omega) (by omega)) dL_law_1447 ?_
  refine lv_topi (fun y18 ey18 => ?_)
  obtain rfl : y2 = y18 := ey2.trans ey18.symm
  refine lv_aload_n hx hb dL_law_1448 rfl (lv_at hl 0 rfl) ?_
  refine lv_iload_n hx hb dL_law_1449 rfl (lv_at hl 3 rfl) ?_
  refine lv_iconst (v := 2) hx hb dL_law_1450 (by decide) ?_
  refine lv_iadd hx hb dL_law_1451 ?_
  refine lv_topi (fun x19 ex19 => ?_)
  obtain rfl : x3 = x19 := ex3.trans ex19.symm
  refine va_sld hx hb hX hbl hbA hS (z_in rfl (by omega) (by omega)) dL_law_1452 ?_
  refine lv_topi (fun y20 ey20 => ?_)
  obtain rfl : y4 = y20 := ey4.trans ey20.symm
  refine lv_aload_n hx hb dL_law_1453 rfl (lv_at hl 0 rfl) ?_
  refine lv_iload_n hx hb dL_law_1454 rfl (lv_at hl 3 rfl) ?_
  refine lv_iconst (v := 3) hx hb dL_law_1455 (by decide) ?_
  refine lv_iadd hx hb dL_law_1456 ?_
  refine lv_topi (fun x21 ex21 => ?_)
  obtain rfl : x5 = x21 := ex5.trans ex21.symm
  refine va_sld hx hb hX hbl hbA hS (z_in rfl (by omega) (by omega)) dL_law_1457 ?_
  refine lv_topi (fun y22 ey22 => ?_)
  obtain rfl : y6 = y22 := ey6.trans ey22.symm
  have hjb := lwJ_b hJ
  have hPs := z_swapP hP
  have hDs := z_swapD hD
  have hPc := zP_l hPs
  have hDc := zD_l hDs
  have hFc := zw_free hDc hS hA
  obtain ⟨z24, z25, z26, z27, z28, z29, z30, z31, z32, z33, z34, z35, z36, z37, z38, q39, q40, q41, q42, q43, q44, q45, q46, q47, q48, q49, q50, q51, q52, q53, q54, q55, q56, q57, q58, hs59⟩ := a9_0 hI9.1
  refine va_calli (va_runV (As := [.int y2, .int y4, .int y6]) (rest := []) ⟨hx, hb, hml, hown, hg⟩ (k_X9_linesOf l g _ ad9 me ct9 y2 y4 y6 hI9) (cwV 3 hg (z_gV mm_1411 mm_1412 mm_1413 mm_117 mm_1414) rfl rfl rfl (by decide +kernel) ⟨Nat.le_of_ble_eq_true rfl, Nat.le_of_ble_eq_true rfl⟩) ⟨(zA.pre [.ref (ad9 0), .int y2, .int y4, .int y6] hPc hK hDc hN).1, va_recv hK hPc (ci := 9) (q0 := 0) rfl (zw_at (by omega) hs59), (zA.pre [.ref (ad9 0), .int y2, .int y4, .int y6] hPc hK hDc hN).2⟩ rfl rfl hl.1 rfl (lv_room (Nat.le_of_ble_eq_true rfl)) dL_law_1458 ⟨(show kq + 0 ≤ 600000 by omega), (show nq + 0 ≤ 7302250 by omega)⟩) hS (fun q _ h => hFc q h) hFc (fun r60 u61 t H1 locs ht hvm hr60 hB hz1 hk1 hS => ?_)
  obtain ⟨ct62, hP1, hD1, hI9⟩ := hB
  rw [ht] at hP1
  obtain ⟨hP, hD⟩ := z_two hPs hDs hk1 hFc hP1 hD1
  have hP := z_swapP hP
  have hD := z_swapD hD
  generalize H1 = H at hP hS ⊢
  refine W.widen (k := kq) (n := nq) (Nat.le_refl _) (Nat.le_refl _) ?_
  refine lv_pop hx hb dL_law_1461 rfl ?_
  refine lv_goto (tgt := 1531) hx hb dL_law_1462 (by decide) ?_
  exact kk ad8 ad9 ct16 ct62 pe me _ _ kq nq ls rfl rfl hP hD hS hI8 hI9 hT hJ (lv_sub hl [0, 1, 2, 3] rfl)

set_option maxHeartbeats 4000000 in
set_option maxRecDepth 100000 in
theorem op_check {p : Program} {e : Env} {s : State} {m : MethodId} {below : List Frame} {meth : Method} {c : Code} (l : Launch) {b L : Nat} {xs : Nat → Int32} (C0 : lw_At p s m meth c b L xs) (g : zG) (hK : zK g s) (hN : zN s) {A : Nat → Prop} (hA : ∀ q, s.heap.size ≤ q → A q) (hA' : ∀ q, A q → s.heap.size ≤ q) (x0 m0 : Nat) (i : Int32) (hi : 0 ≤ i.toInt ∧ i.toInt ≤ 3066) (hiL : i.toInt + 5 < (L : Int)) (kk : ∀ (ad8b ad9b : Nat → Nat) (ct8b ct9b : Nat → va_E) (peb meb : Int32) (H : Heap) (locs : List Loc) (kq nq : Nat) (ls : Array Slot), ad8b 0 = x0 → ad9b 0 = m0 → zP g (zw 126 ad8b ct8b ++ zw 32 ad9b ct9b) H → va_D A (zw 126 ad8b ct8b ++ zw 32 ad9b ct9b) → va_S A s.heap H locs → Inv8 g ad8b peb ct8b → IR g ad9b meb ct9b → tieT ad8b ad9b → lwJ kq nq (zlen (ct8b 20)) → lv_has ls 4 [(0, .ref b), (1, .ref x0), (2, .ref m0), (3, .int i)] → W p l e room_1 s m #[Value.ref b] below meth c H locs kq nq (lw_Z below #[Value.ref b] s) (F0 m 1531 ls [])) (ad8 ad9 : Nat → Nat) (ct8 ct9 : Nat → va_E) (pe me : Int32) (H : Heap) (locs : List Loc) (kq nq : Nat) (ls : Array Slot) (hx0 : ad8 0 = x0) (hm0 : ad9 0 = m0) (hP : zP g (zw 126 ad8 ct8 ++ zw 32 ad9 ct9) H) (hD : va_D A (zw 126 ad8 ct8 ++ zw 32 ad9 ct9)) (hS : va_S A s.heap H locs) (hI8 : Inv8 g ad8 pe ct8) (hI9 : IR g ad9 me ct9) (hT : tieT ad8 ad9) (hJ : lwJ kq nq (zlen (ct8 20))) (hl : lv_has ls 4 [(0, .ref b), (1, .ref x0), (2, .ref m0), (3, .int i)]) : W p l e room_1 s m #[Value.ref b] below meth c H locs kq nq (lw_Z below #[Value.ref b] s) (F0 m 1465 ls []) := by
  obtain ⟨hx, hb, hr, hml, hown, hts, hX, hbl, hlocks, hgv⟩ := C0
  have hg : ∀ w ∈ zGW, w.before #[Value.ref b] s = true := fun w h => hts w (List.mem_filter.mp h).1
  have hown : s.vm.findClass RL = some m.cls := hown
  have hbA : ¬ A b := fun h => absurd (hA' b h) (Nat.not_le.mpr hbl)
  subst hx0
  subst hm0
  refine lv_aload_n hx hb dL_law_1465 rfl (lv_at hl 1 rfl) ?_
  refine lv_aload_n hx hb dL_law_1466 rfl (lv_at hl 0 rfl) ?_
  refine lv_iload_n hx hb dL_law_1467 rfl (lv_at hl 3 rfl) ?_
  refine lv_iconst (v := 1) hx hb dL_law_1468 (by decide) ?_
  refine lv_iadd hx hb dL_law_1469 ?_
  refine lv_topi (fun x1 ex1 => ?_)
  have tx1 : x1.toInt = i.toInt + 1 := by rw [ex1]; exact z_add rfl (by decide : (1 : Int32).toInt = 1) (by omega) (by omega)
  refine va_sld hx hb hX hbl hbA hS (z_in rfl (by omega) (by omega)) dL_law_1470 ?_
  refine lv_topi (fun y2 ey2 => ?_)
  refine lv_aload_n hx hb dL_law_1471 rfl (lv_at hl 0 rfl) ?_
  refine lv_iload_n hx hb dL_law_1472 rfl (lv_at hl 3 rfl) ?_
  refine lv_iconst (v := 2) hx hb dL_law_1473 (by decide) ?_
  refine lv_iadd hx hb dL_law_1474 ?_
  refine lv_topi (fun x3 ex3 => ?_)
  have tx3 : x3.toInt = i.toInt + 2 := by rw [ex3]; exact z_add rfl (by decide : (2 : Int32).toInt = 2) (by omega) (by omega)
  refine va_sld hx hb hX hbl hbA hS (z_in rfl (by omega) (by omega)) dL_law_1475 ?_
  refine lv_topi (fun y4 ey4 => ?_)
  refine lv_aload_n hx hb dL_law_1476 rfl (lv_at hl 0 rfl) ?_
  refine lv_iload_n hx hb dL_law_1477 rfl (lv_at hl 3 rfl) ?_
  refine lv_iconst (v := 3) hx hb dL_law_1478 (by decide) ?_
  refine lv_iadd hx hb dL_law_1479 ?_
  refine lv_topi (fun x5 ex5 => ?_)
  have tx5 : x5.toInt = i.toInt + 3 := by rw [ex5]; exact z_add rfl (by decide : (3 : Int32).toInt = 3) (by omega) (by omega)
  refine va_sld hx hb hX hbl hbA hS (z_in rfl (by omega) (by omega)) dL_law_1480 ?_
  refine lv_topi (fun y6 ey6 => ?_)
  have hjb := lwJ_b hJ
  have hPc := zP_l hP
  have hDc := zD_l hD
  have hFc := zw_free hDc hS hA
  obtain ⟨z8, z9, q10, q11, q12, hs13⟩ := a8_0 hI8
  refine va_calli (va_runV (As := [.int y2, .int y4, .int y6]) (rest := []) ⟨hx, hb, hml, hown, hg⟩ (zs_i hI8 (k_X8_check l g _ ad8 pe ct8 y2 y4 y6 hI8)) (cwV 3 hg (z_gV mm_934 mm_935 mm_936 mm_108 mm_937) rfl rfl rfl (by decide +kernel) ⟨Nat.le_of_ble_eq_true rfl, Nat.le_of_ble_eq_true rfl⟩) ⟨(zA.pre [.ref (ad8 0), .int y2, .int y4, .int y6] hPc hK hDc hN).1, va_recv hK hPc (ci := 8) (q0 := 0) rfl (zw_at (by omega) hs13), (zA.pre [.ref (ad8 0), .int y2, .int y4, .int y6] hPc hK hDc hN).2⟩ rfl rfl hl.1 rfl (lv_room (Nat.le_of_ble_eq_true rfl)) dL_law_1481 ⟨(show kq + 0 ≤ 600000 by omega), (show nq + 0 ≤ 7302250 by omega)⟩) hS (fun q _ h => hFc q h) hFc (fun r14 u15 t H1 locs ht hvm hr14 hB hz1 hk1 hS => ?_)
  obtain ⟨⟨ct16, hP1, hD1, hI8⟩, hzs⟩ := hB
  rw [ht] at hP1 hzs
  have hzl := hzs.eq hP1 hI8
  rw [← hzl] at hJ
  obtain ⟨hP, hD⟩ := z_two hP hD hk1 hFc hP1 hD1
  generalize H1 = H at hP hS ⊢
  refine W.widen (k := kq) (n := nq) (Nat.le_refl _) (Nat.le_refl _) ?_
  refine lv_pop hx hb dL_law_1484 rfl ?_
  refine lv_aload_n hx hb dL_law_1485 rfl (lv_at hl 2 rfl) ?_
  refine lv_aload_n hx hb dL_law_1486 rfl (lv_at hl 0 rfl) ?_
  refine lv_iload_n hx hb dL_law_1487 rfl (lv_at hl 3 rfl) ?_
  refine lv_iconst (v := 1) hx hb dL_law_1488 (by decide) ?_
  refine lv_iadd hx hb dL_law_1489 ?_
  refine lv_topi (fun x17 ex17 => ?_)
  obtain rfl : x1 = x17 := ex1.trans ex17.symm
  refine va_sld hx hb hX hbl hbA hS (z_in rfl (by omega) (by omega)) dL_law_1490 ?_
  refine lv_topi (fun y18 ey18 => ?_)
  obtain rfl : y2 = y18 := ey2.trans ey18.symm
  refine lv_aload_n hx hb dL_law_1491 rfl (lv_at hl 0 rfl) ?_
  refine lv_iload_n hx hb dL_law_1492 rfl (lv_at hl 3 rfl) ?_
  refine lv_iconst (v := 2) hx hb dL_law_1493 (by decide) ?_
  refine lv_iadd hx hb dL_law_1494 ?_
  refine lv_topi (fun x19 ex19 => ?_)
  obtain rfl : x3 = x19 := ex3.trans ex19.symm
  refine va_sld hx hb hX hbl hbA hS (z_in rfl (by omega) (by omega)) dL_law_1495 ?_
  refine lv_topi (fun y20 ey20 => ?_)
  obtain rfl : y4 = y20 := ey4.trans ey20.symm
  refine lv_aload_n hx hb dL_law_1496 rfl (lv_at hl 0 rfl) ?_
  refine lv_iload_n hx hb dL_law_1497 rfl (lv_at hl 3 rfl) ?_
  refine lv_iconst (v := 3) hx hb dL_law_1498 (by decide) ?_
  refine lv_iadd hx hb dL_law_1499 ?_
  refine lv_topi (fun x21 ex21 => ?_)
  obtain rfl : x5 = x21 := ex5.trans ex21.symm
  refine va_sld hx hb hX hbl hbA hS (z_in rfl (by omega) (by omega)) dL_law_1500 ?_
  refine lv_topi (fun y22 ey22 => ?_)
  obtain rfl : y6 = y22 := ey6.trans ey22.symm
  have hjb := lwJ_b hJ
  have hPs := z_swapP hP
  have hDs := z_swapD hD
  have hPc := zP_l hPs
  have hDc := zD_l hDs
  have hFc := zw_free hDc hS hA
  obtain ⟨z24, z25, z26, z27, z28, z29, z30, z31, z32, z33, z34, z35, z36, z37, z38, q39, q40, q41, q42, q43, q44, q45, q46, q47, q48, q49, q50, q51, q52, q53, q54, q55, q56, q57, q58, hs59⟩ := a9_0 hI9.1
  refine va_calli (va_runV (As := [.int y2, .int y4, .int y6]) (rest := []) ⟨hx, hb, hml, hown, hg⟩ (k_X9_check l g _ ad9 me ct9 y2 y4 y6 hI9) (cwV 3 hg (z_gV mm_1476 mm_1477 mm_1478 mm_117 mm_1479) rfl rfl rfl (by decide +kernel) ⟨Nat.le_of_ble_eq_true rfl, Nat.le_of_ble_eq_true rfl⟩) ⟨(zA.pre [.ref (ad9 0), .int y2, .int y4, .int y6] hPc hK hDc hN).1, va_recv hK hPc (ci := 9) (q0 := 0) rfl (zw_at (by omega) hs59), (zA.pre [.ref (ad9 0), .int y2, .int y4, .int y6] hPc hK hDc hN).2⟩ rfl rfl hl.1 rfl (lv_room (Nat.le_of_ble_eq_true rfl)) dL_law_1501 ⟨(show kq + 0 ≤ 600000 by omega), (show nq + 0 ≤ 7302250 by omega)⟩) hS (fun q _ h => hFc q h) hFc (fun r60 u61 t H1 locs ht hvm hr60 hB hz1 hk1 hS => ?_)
  obtain ⟨ct62, hP1, hD1, hI9⟩ := hB
  rw [ht] at hP1
  obtain ⟨hP, hD⟩ := z_two hPs hDs hk1 hFc hP1 hD1
  have hP := z_swapP hP
  have hD := z_swapD hD
  generalize H1 = H at hP hS ⊢
  refine W.widen (k := kq) (n := nq) (Nat.le_refl _) (Nat.le_refl _) ?_
  refine lv_pop hx hb dL_law_1504 rfl ?_
  refine lv_goto (tgt := 1531) hx hb dL_law_1505 (by decide) ?_
  exact kk ad8 ad9 ct16 ct62 pe me _ _ kq nq ls rfl rfl hP hD hS hI8 hI9 hT hJ (lv_sub hl [0, 1, 2, 3] rfl)

set_option maxHeartbeats 4000000 in
set_option maxRecDepth 100000 in
theorem op_count {p : Program} {e : Env} {s : State} {m : MethodId} {below : List Frame} {meth : Method} {c : Code} (l : Launch) {b L : Nat} {xs : Nat → Int32} (C0 : lw_At p s m meth c b L xs) (g : zG) (hK : zK g s) (hN : zN s) {A : Nat → Prop} (hA : ∀ q, s.heap.size ≤ q → A q) (hA' : ∀ q, A q → s.heap.size ≤ q) (x0 m0 : Nat) (i : Int32) (hi : 0 ≤ i.toInt ∧ i.toInt ≤ 3066) (hiL : i.toInt + 5 < (L : Int)) (kk : ∀ (ad8b ad9b : Nat → Nat) (ct8b ct9b : Nat → va_E) (peb meb : Int32) (H : Heap) (locs : List Loc) (kq nq : Nat) (ls : Array Slot), ad8b 0 = x0 → ad9b 0 = m0 → zP g (zw 126 ad8b ct8b ++ zw 32 ad9b ct9b) H → va_D A (zw 126 ad8b ct8b ++ zw 32 ad9b ct9b) → va_S A s.heap H locs → Inv8 g ad8b peb ct8b → IR g ad9b meb ct9b → tieT ad8b ad9b → lwJ kq nq (zlen (ct8b 20)) → lv_has ls 4 [(0, .ref b), (1, .ref x0), (2, .ref m0), (3, .int i)] → W p l e room_1 s m #[Value.ref b] below meth c H locs kq nq (lw_Z below #[Value.ref b] s) (F0 m 1531 ls [])) (ad8 ad9 : Nat → Nat) (ct8 ct9 : Nat → va_E) (pe me : Int32) (H : Heap) (locs : List Loc) (kq nq : Nat) (ls : Array Slot) (hx0 : ad8 0 = x0) (hm0 : ad9 0 = m0) (hP : zP g (zw 126 ad8 ct8 ++ zw 32 ad9 ct9) H) (hD : va_D A (zw 126 ad8 ct8 ++ zw 32 ad9 ct9)) (hS : va_S A s.heap H locs) (hI8 : Inv8 g ad8 pe ct8) (hI9 : IR g ad9 me ct9) (hT : tieT ad8 ad9) (hJ : lwJ kq nq (zlen (ct8 20))) (hl : lv_has ls 4 [(0, .ref b), (1, .ref x0), (2, .ref m0), (3, .int i)]) : W p l e room_1 s m #[Value.ref b] below meth c H locs kq nq (lw_Z below #[Value.ref b] s) (F0 m 1508 ls []) := by
  obtain ⟨hx, hb, hr, hml, hown, hts, hX, hbl, hlocks, hgv⟩ := C0
  have hg : ∀ w ∈ zGW, w.before #[Value.ref b] s = true := fun w h => hts w (List.mem_filter.mp h).1
  have hown : s.vm.findClass RL = some m.cls := hown
  have hbA : ¬ A b := fun h => absurd (hA' b h) (Nat.not_le.mpr hbl)
  subst hx0
  subst hm0
  refine lv_aload_n hx hb dL_law_1508 rfl (lv_at hl 1 rfl) ?_
  refine lv_aload_n hx hb dL_law_1509 rfl (lv_at hl 0 rfl) ?_
  refine lv_iload_n hx hb dL_law_1510 rfl (lv_at hl 3 rfl) ?_
  refine lv_iconst (v := 1) hx hb dL_law_1511 (by decide) ?_
  refine lv_iadd hx hb dL_law_1512 ?_
  refine lv_topi (fun x1 ex1 => ?_)
  have tx1 : x1.toInt = i.toInt + 1 := by rw [ex1]; exact z_add rfl (by decide : (1 : Int32).toInt = 1) (by omega) (by omega)
  refine va_sld hx hb hX hbl hbA hS (z_in rfl (by omega) (by omega)) dL_law_1513 ?_
  refine lv_topi (fun y2 ey2 => ?_)
  have hjb := lwJ_b hJ
  have hPc := zP_l hP
  have hDc := zD_l hD
  obtain ⟨z4, z5, q6, q7, q8, hs9⟩ := a8_0 hI8
  refine zc_i (va_runV (As := [.int y2]) (rest := []) ⟨hx, hb, hml, hown, hg⟩ (k_X8_count l g ad8 pe ct8 y2 hI8) (cwV 1 hg (z_gV mm_943 mm_944 mm_945 mm_108 mm_946) rfl rfl rfl (by decide +kernel) ⟨Nat.le_of_ble_eq_true rfl, Nat.le_of_ble_eq_true rfl⟩) ⟨(zR.pre [.ref (ad8 0), .int y2] hPc hK hN).1, va_recv hK hPc (ci := 8) (q0 := 0) rfl (zw_at (by omega) hs9), (zR.pre [.ref (ad8 0), .int y2] hPc hK hN).2⟩ rfl rfl hl.1 rfl (lv_room (Nat.le_of_ble_eq_true rfl)) dL_law_1514 ⟨(show kq + 0 ≤ 600000 by omega), (show nq + 0 ≤ 7302250 by omega)⟩) (fun r10 hr10 => ?_)
  refine lv_pop hx hb dL_law_1517 rfl ?_
  refine lv_aload_n hx hb dL_law_1518 rfl (lv_at hl 2 rfl) ?_
  refine lv_aload_n hx hb dL_law_1519 rfl (lv_at hl 0 rfl) ?_
  refine lv_iload_n hx hb dL_law_1520 rfl (lv_at hl 3 rfl) ?_
  refine lv_iconst (v := 1) hx hb dL_law_1521 (by decide) ?_
  refine lv_iadd hx hb dL_law_1522 ?_
  refine lv_topi (fun x11 ex11 => ?_)
  obtain rfl : x1 = x11 := ex1.trans ex11.symm
  refine va_sld hx hb hX hbl hbA hS (z_in rfl (by omega) (by omega)) dL_law_1523 ?_
  refine lv_topi (fun y12 ey12 => ?_)
  obtain rfl : y2 = y12 := ey2.trans ey12.symm
  have hjb := lwJ_b hJ
  have hPs := z_swapP hP
  have hDs := z_swapD hD
  have hPc := zP_l hPs
  have hDc := zD_l hDs
  obtain ⟨z14, z15, z16, z17, z18, z19, z20, z21, z22, z23, z24, z25, z26, z27, z28, q29, q30, q31, q32, q33, q34, q35, q36, q37, q38, q39, q40, q41, q42, q43, q44, q45, q46, q47, q48, hs49⟩ := a9_0 hI9.1
  refine zc_i (va_runV (As := [.int y2]) (rest := []) ⟨hx, hb, hml, hown, hg⟩ (k_X9_count l g ad9 me ct9 y2 hI9) (cwV 1 hg (z_gV mm_1484 mm_1485 mm_1486 mm_117 mm_1487) rfl rfl rfl (by decide +kernel) ⟨Nat.le_of_ble_eq_true rfl, Nat.le_of_ble_eq_true rfl⟩) ⟨(zR.pre [.ref (ad9 0), .int y2] hPc hK hN).1, va_recv hK hPc (ci := 9) (q0 := 0) rfl (zw_at (by omega) hs49), (zR.pre [.ref (ad9 0), .int y2] hPc hK hN).2⟩ rfl rfl hl.1 rfl (lv_room (Nat.le_of_ble_eq_true rfl)) dL_law_1524 ⟨(show kq + 0 ≤ 600000 by omega), (show nq + 0 ≤ 7302250 by omega)⟩) (fun r50 hr50 => ?_)
  refine lv_pop hx hb dL_law_1527 rfl ?_
  refine lv_goto (tgt := 1531) hx hb dL_law_1528 (by decide) ?_
  exact kk ad8 ad9 ct8 ct9 pe me _ _ kq nq ls rfl rfl hP hD hS hI8 hI9 hT hJ (lv_sub hl [0, 1, 2, 3] rfl)

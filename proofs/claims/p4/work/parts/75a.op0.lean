set_option maxHeartbeats 4000000 in
set_option maxRecDepth 100000 in
theorem op_upper {p : Program} {e : Env} {s : State} {m : MethodId} {below : List Frame} {meth : Method} {c : Code} (l : Launch) {b L : Nat} {xs : Nat → Int32} (C0 : lw_At p s m meth c b L xs) (g : zG) (hK : zK g s) (hN : zN s) {A : Nat → Prop} (hA : ∀ q, s.heap.size ≤ q → A q) (hA' : ∀ q, A q → s.heap.size ≤ q) (x0 m0 : Nat) (i : Int32) (hi : 0 ≤ i.toInt ∧ i.toInt ≤ 3066) (hiL : i.toInt + 5 < (L : Int)) (kk : ∀ (ad8b ad9b : Nat → Nat) (ct8b ct9b : Nat → va_E) (peb : Int32) (H : Heap) (locs : List Loc) (kq nq : Nat) (ls : Array Slot), ad8b 0 = x0 → ad9b 0 = m0 → zP g (zw 126 ad8b ct8b ++ zw 32 ad9b ct9b) H → va_D A (zw 126 ad8b ct8b ++ zw 32 ad9b ct9b) → va_S A s.heap H locs → Inv8 g ad8b peb ct8b → IR g ad9b peb ct9b → lwJ kq nq (zlen (ct8b 20)) → lv_has ls 4 [(0, .ref b), (1, .ref x0), (2, .ref m0), (3, .int i)] → W p l e room_1 s m #[Value.ref b] below meth c H locs kq nq (lw_Z below #[Value.ref b] s) (F0 m 1531 ls [])) (ad8 ad9 : Nat → Nat) (ct8 ct9 : Nat → va_E) (pe : Int32) (H : Heap) (locs : List Loc) (kq nq : Nat) (ls : Array Slot) (hx0 : ad8 0 = x0) (hm0 : ad9 0 = m0) (hP : zP g (zw 126 ad8 ct8 ++ zw 32 ad9 ct9) H) (hD : va_D A (zw 126 ad8 ct8 ++ zw 32 ad9 ct9)) (hS : va_S A s.heap H locs) (hI8 : Inv8 g ad8 pe ct8) (hI9 : IR g ad9 pe ct9) (hJ : lwJ kq nq (zlen (ct8 20))) (hl : lv_has ls 4 [(0, .ref b), (1, .ref x0), (2, .ref m0), (3, .int i)]) : W p l e room_1 s m #[Value.ref b] below meth c H locs kq nq (lw_Z below #[Value.ref b] s) (F0 m 172 ls []) := by
  obtain ⟨hx, hb, hr, hml, hown, hts, hX, hbl, hlocks, hgv⟩ := C0
  have hg : ∀ w ∈ zGW, w.before #[Value.ref b] s = true := fun w h => hts w (List.mem_filter.mp h).1
  have hown : s.vm.findClass RL = some m.cls := hown
  have hbA : ¬ A b := fun h => absurd (hA' b h) (Nat.not_le.mpr hbl)
  subst hx0
  subst hm0
  refine lv_aload_n hx hb dL_law_172 rfl (lv_at hl 1 rfl) ?_
  refine lv_aload_n hx hb dL_law_173 rfl (lv_at hl 0 rfl) ?_
  refine lv_iload_n hx hb dL_law_174 rfl (lv_at hl 3 rfl) ?_
  refine lv_iconst (v := 1) hx hb dL_law_175 (by decide) ?_
  refine lv_iadd hx hb dL_law_176 ?_
  refine lv_topi (fun x1 ex1 => ?_)
  have tx1 : x1.toInt = i.toInt + 1 := by rw [ex1]; exact z_add rfl (by decide : (1 : Int32).toInt = 1) (by omega) (by omega)
  refine va_sld hx hb hX hbl hbA hS (z_in rfl (by omega) (by omega)) dL_law_177 ?_
  refine lv_topi (fun y2 ey2 => ?_)
  refine lv_aload_n hx hb dL_law_178 rfl (lv_at hl 0 rfl) ?_
  refine lv_iload_n hx hb dL_law_179 rfl (lv_at hl 3 rfl) ?_
  refine lv_iconst (v := 2) hx hb dL_law_180 (by decide) ?_
  refine lv_iadd hx hb dL_law_181 ?_
  refine lv_topi (fun x3 ex3 => ?_)
  have tx3 : x3.toInt = i.toInt + 2 := by rw [ex3]; exact z_add rfl (by decide : (2 : Int32).toInt = 2) (by omega) (by omega)
  refine va_sld hx hb hX hbl hbA hS (z_in rfl (by omega) (by omega)) dL_law_182 ?_
  refine lv_topi (fun y4 ey4 => ?_)
  refine lv_aload_n hx hb dL_law_183 rfl (lv_at hl 0 rfl) ?_
  refine lv_iload_n hx hb dL_law_184 rfl (lv_at hl 3 rfl) ?_
  refine lv_iconst (v := 3) hx hb dL_law_185 (by decide) ?_
  refine lv_iadd hx hb dL_law_186 ?_
  refine lv_topi (fun x5 ex5 => ?_)
  have tx5 : x5.toInt = i.toInt + 3 := by rw [ex5]; exact z_add rfl (by decide : (3 : Int32).toInt = 3) (by omega) (by omega)
  refine va_sld hx hb hX hbl hbA hS (z_in rfl (by omega) (by omega)) dL_law_187 ?_
  refine lv_topi (fun y6 ey6 => ?_)
  have hjb := lwJ_b hJ
  have hPc := zP_l hP
  have hDc := zD_l hD
  have hFc := zw_free hDc hS hA
  obtain ⟨z8, z9, q10, q11, q12, hs13⟩ := a8_0 hI8
  refine va_calli (va_runV (As := [.int y2, .int y4, .int y6]) (rest := []) ⟨hx, hb, hml, hown, hg⟩ (zs_i hI8 (k_X8_upper l g _ ad8 pe ct8 y2 y4 y6 hI8)) (cwV 3 hg (z_gV mm_400 mm_401 mm_402 mm_108 mm_403) rfl rfl rfl (by decide +kernel) ⟨Nat.le_of_ble_eq_true rfl, Nat.le_of_ble_eq_true rfl⟩) ⟨(zA.pre [.ref (ad8 0), .int y2, .int y4, .int y6] hPc hK hDc hN).1, va_recv hK hPc (ci := 8) (q0 := 0) rfl (zw_at (by omega) hs13), (zA.pre [.ref (ad8 0), .int y2, .int y4, .int y6] hPc hK hDc hN).2⟩ rfl rfl hl.1 rfl (lv_room (Nat.le_of_ble_eq_true rfl)) dL_law_188 ⟨(show kq + 0 ≤ 600000 by omega), (show nq + 0 ≤ 7302250 by omega)⟩) hS (fun q _ h => hFc q h) hFc (fun r14 u15 t H1 locs ht hvm hr14 hB hz1 hk1 hS => ?_)
  obtain ⟨⟨ct16, hP1, hD1, hI8⟩, hzs⟩ := hB
  rw [ht] at hP1 hzs
  have hzl := hzs.eq hP1 hI8
  rw [← hzl] at hJ
  obtain ⟨hP, hD⟩ := z_two hP hD hk1 hFc hP1 hD1
  generalize H1 = H at hP hS ⊢
  refine W.widen (k := kq) (n := nq) (Nat.le_refl _) (Nat.le_refl _) ?_
  refine lv_pop hx hb dL_law_191 rfl ?_
  refine lv_aload_n hx hb dL_law_192 rfl (lv_at hl 2 rfl) ?_
  refine lv_aload_n hx hb dL_law_193 rfl (lv_at hl 0 rfl) ?_
  refine lv_iload_n hx hb dL_law_194 rfl (lv_at hl 3 rfl) ?_
  refine lv_iconst (v := 1) hx hb dL_law_195 (by decide) ?_
  refine lv_iadd hx hb dL_law_196 ?_
  refine lv_topi (fun x17 ex17 => ?_)
  obtain rfl : x1 = x17 := ex1.trans ex17.symm
  refine va_sld hx hb hX hbl hbA hS (z_in rfl (by omega) (by omega)) dL_law_197 ?_
  refine lv_topi (fun y18 ey18 => ?_)
  obtain rfl : y2 = y18 := ey2.trans ey18.symm
  refine lv_aload_n hx hb dL_law_198 rfl (lv_at hl 0 rfl) ?_
  refine lv_iload_n hx hb dL_law_199 rfl (lv_at hl 3 rfl) ?_
  refine lv_iconst (v := 2) hx hb dL_law_200 (by decide) ?_
  refine lv_iadd hx hb dL_law_201 ?_
  refine lv_topi (fun x19 ex19 => ?_)
  obtain rfl : x3 = x19 := ex3.trans ex19.symm
  refine va_sld hx hb hX hbl hbA hS (z_in rfl (by omega) (by omega)) dL_law_202 ?_
  refine lv_topi (fun y20 ey20 => ?_)
  obtain rfl : y4 = y20 := ey4.trans ey20.symm
  refine lv_aload_n hx hb dL_law_203 rfl (lv_at hl 0 rfl) ?_
  refine lv_iload_n hx hb dL_law_204 rfl (lv_at hl 3 rfl) ?_
  refine lv_iconst (v := 3) hx hb dL_law_205 (by decide) ?_
  refine lv_iadd hx hb dL_law_206 ?_
  refine lv_topi (fun x21 ex21 => ?_)
  obtain rfl : x5 = x21 := ex5.trans ex21.symm
  refine va_sld hx hb hX hbl hbA hS (z_in rfl (by omega) (by omega)) dL_law_207 ?_
  refine lv_topi (fun y22 ey22 => ?_)
  obtain rfl : y6 = y22 := ey6.trans ey22.symm
  have hjb := lwJ_b hJ
  have hPs := z_swapP hP
  have hDs := z_swapD hD
  have hPc := zP_l hPs
  have hDc := zD_l hDs
  have hFc := zw_free hDc hS hA
  obtain ⟨z24, z25, z26, z27, z28, z29, z30, z31, z32, z33, z34, z35, z36, z37, z38, q39, q40, q41, q42, q43, q44, q45, q46, q47, q48, q49, q50, q51, q52, q53, q54, q55, q56, q57, q58, hs59⟩ := a9_0 hI9.1
  refine va_calli (va_runV (As := [.int y2, .int y4, .int y6]) (rest := []) ⟨hx, hb, hml, hown, hg⟩ (k_X9_upper l g _ ad9 pe ct9 y2 y4 y6 hI9) (cwV 3 hg (z_gV mm_1102 mm_1103 mm_1104 mm_117 mm_1105) rfl rfl rfl (by decide +kernel) ⟨Nat.le_of_ble_eq_true rfl, Nat.le_of_ble_eq_true rfl⟩) ⟨(zA.pre [.ref (ad9 0), .int y2, .int y4, .int y6] hPc hK hDc hN).1, va_recv hK hPc (ci := 9) (q0 := 0) rfl (zw_at (by omega) hs59), (zA.pre [.ref (ad9 0), .int y2, .int y4, .int y6] hPc hK hDc hN).2⟩ rfl rfl hl.1 rfl (lv_room (Nat.le_of_ble_eq_true rfl)) dL_law_208 ⟨(show kq + 0 ≤ 600000 by omega), (show nq + 0 ≤ 7302250 by omega)⟩) hS (fun q _ h => hFc q h) hFc (fun r60 u61 t H1 locs ht hvm hr60 hB hz1 hk1 hS => ?_)
  obtain ⟨ct62, hP1, hD1, hI9⟩ := hB
  rw [ht] at hP1
  obtain ⟨hP, hD⟩ := z_two hPs hDs hk1 hFc hP1 hD1
  have hP := z_swapP hP
  have hD := z_swapD hD
  generalize H1 = H at hP hS ⊢
  refine W.widen (k := kq) (n := nq) (Nat.le_refl _) (Nat.le_refl _) ?_
  refine lv_pop hx hb dL_law_211 rfl ?_
  refine lv_goto (tgt := 1531) hx hb dL_law_212 (by decide) ?_
  exact kk ad8 ad9 ct16 ct62 pe _ _ kq nq ls rfl rfl hP hD hS hI8 hI9 hJ (lv_sub hl [0, 1, 2, 3] rfl)

set_option maxHeartbeats 4000000 in
set_option maxRecDepth 100000 in
theorem op_weight {p : Program} {e : Env} {s : State} {m : MethodId} {below : List Frame} {meth : Method} {c : Code} (l : Launch) {b L : Nat} {xs : Nat → Int32} (C0 : lw_At p s m meth c b L xs) (g : zG) (hK : zK g s) (hN : zN s) {A : Nat → Prop} (hA : ∀ q, s.heap.size ≤ q → A q) (hA' : ∀ q, A q → s.heap.size ≤ q) (x0 m0 : Nat) (i : Int32) (hi : 0 ≤ i.toInt ∧ i.toInt ≤ 3066) (hiL : i.toInt + 5 < (L : Int)) (kk : ∀ (ad8b ad9b : Nat → Nat) (ct8b ct9b : Nat → va_E) (peb : Int32) (H : Heap) (locs : List Loc) (kq nq : Nat) (ls : Array Slot), ad8b 0 = x0 → ad9b 0 = m0 → zP g (zw 126 ad8b ct8b ++ zw 32 ad9b ct9b) H → va_D A (zw 126 ad8b ct8b ++ zw 32 ad9b ct9b) → va_S A s.heap H locs → Inv8 g ad8b peb ct8b → IR g ad9b peb ct9b → lwJ kq nq (zlen (ct8b 20)) → lv_has ls 4 [(0, .ref b), (1, .ref x0), (2, .ref m0), (3, .int i)] → W p l e room_1 s m #[Value.ref b] below meth c H locs kq nq (lw_Z below #[Value.ref b] s) (F0 m 1531 ls [])) (ad8 ad9 : Nat → Nat) (ct8 ct9 : Nat → va_E) (pe : Int32) (H : Heap) (locs : List Loc) (kq nq : Nat) (ls : Array Slot) (hx0 : ad8 0 = x0) (hm0 : ad9 0 = m0) (hP : zP g (zw 126 ad8 ct8 ++ zw 32 ad9 ct9) H) (hD : va_D A (zw 126 ad8 ct8 ++ zw 32 ad9 ct9)) (hS : va_S A s.heap H locs) (hI8 : Inv8 g ad8 pe ct8) (hI9 : IR g ad9 pe ct9) (hJ : lwJ kq nq (zlen (ct8 20))) (hl : lv_has ls 4 [(0, .ref b), (1, .ref x0), (2, .ref m0), (3, .int i)]) : W p l e room_1 s m #[Value.ref b] below meth c H locs kq nq (lw_Z below #[Value.ref b] s) (F0 m 215 ls []) := by
  obtain ⟨hx, hb, hr, hml, hown, hts, hX, hbl, hlocks, hgv⟩ := C0
  have hg : ∀ w ∈ zGW, w.before #[Value.ref b] s = true := fun w h => hts w (List.mem_filter.mp h).1
  have hown : s.vm.findClass RL = some m.cls := hown
  have hbA : ¬ A b := fun h => absurd (hA' b h) (Nat.not_le.mpr hbl)
  subst hx0
  subst hm0
  refine lv_aload_n hx hb dL_law_215 rfl (lv_at hl 1 rfl) ?_
  refine lv_aload_n hx hb dL_law_216 rfl (lv_at hl 0 rfl) ?_
  refine lv_iload_n hx hb dL_law_217 rfl (lv_at hl 3 rfl) ?_
  refine lv_iconst (v := 1) hx hb dL_law_218 (by decide) ?_
  refine lv_iadd hx hb dL_law_219 ?_
  refine lv_topi (fun x1 ex1 => ?_)
  have tx1 : x1.toInt = i.toInt + 1 := by rw [ex1]; exact z_add rfl (by decide : (1 : Int32).toInt = 1) (by omega) (by omega)
  refine va_sld hx hb hX hbl hbA hS (z_in rfl (by omega) (by omega)) dL_law_220 ?_
  refine lv_topi (fun y2 ey2 => ?_)
  refine lv_aload_n hx hb dL_law_221 rfl (lv_at hl 0 rfl) ?_
  refine lv_iload_n hx hb dL_law_222 rfl (lv_at hl 3 rfl) ?_
  refine lv_iconst (v := 2) hx hb dL_law_223 (by decide) ?_
  refine lv_iadd hx hb dL_law_224 ?_
  refine lv_topi (fun x3 ex3 => ?_)
  have tx3 : x3.toInt = i.toInt + 2 := by rw [ex3]; exact z_add rfl (by decide : (2 : Int32).toInt = 2) (by omega) (by omega)
  refine va_sld hx hb hX hbl hbA hS (z_in rfl (by omega) (by omega)) dL_law_225 ?_
  refine lv_topi (fun y4 ey4 => ?_)
  have hjb := lwJ_b hJ
  have hPc := zP_l hP
  have hDc := zD_l hD
  have hFc := zw_free hDc hS hA
  obtain ⟨z6, z7, q8, q9, q10, hs11⟩ := a8_0 hI8
  refine va_calli (va_runV (As := [.int y2, .int y4]) (rest := []) ⟨hx, hb, hml, hown, hg⟩ (zs_i hI8 (k_X8_weight l g _ ad8 pe ct8 y2 y4 hI8)) (cwV 2 hg (z_gV mm_423 mm_424 mm_425 mm_108 mm_426) rfl rfl rfl (by decide +kernel) ⟨Nat.le_of_ble_eq_true rfl, Nat.le_of_ble_eq_true rfl⟩) ⟨(zA.pre [.ref (ad8 0), .int y2, .int y4] hPc hK hDc hN).1, va_recv hK hPc (ci := 8) (q0 := 0) rfl (zw_at (by omega) hs11), (zA.pre [.ref (ad8 0), .int y2, .int y4] hPc hK hDc hN).2⟩ rfl rfl hl.1 rfl (lv_room (Nat.le_of_ble_eq_true rfl)) dL_law_226 ⟨(show kq + 0 ≤ 600000 by omega), (show nq + 0 ≤ 7302250 by omega)⟩) hS (fun q _ h => hFc q h) hFc (fun r12 u13 t H1 locs ht hvm hr12 hB hz1 hk1 hS => ?_)
  obtain ⟨⟨ct14, hP1, hD1, hI8⟩, hzs⟩ := hB
  rw [ht] at hP1 hzs
  have hzl := hzs.eq hP1 hI8
  rw [← hzl] at hJ
  obtain ⟨hP, hD⟩ := z_two hP hD hk1 hFc hP1 hD1
  generalize H1 = H at hP hS ⊢
  refine W.widen (k := kq) (n := nq) (Nat.le_refl _) (Nat.le_refl _) ?_
  refine lv_pop hx hb dL_law_229 rfl ?_
  refine lv_aload_n hx hb dL_law_230 rfl (lv_at hl 2 rfl) ?_
  refine lv_aload_n hx hb dL_law_231 rfl (lv_at hl 0 rfl) ?_
  refine lv_iload_n hx hb dL_law_232 rfl (lv_at hl 3 rfl) ?_
  refine lv_iconst (v := 1) hx hb dL_law_233 (by decide) ?_
  refine lv_iadd hx hb dL_law_234 ?_
  refine lv_topi (fun x15 ex15 => ?_)
  obtain rfl : x1 = x15 := ex1.trans ex15.symm
  refine va_sld hx hb hX hbl hbA hS (z_in rfl (by omega) (by omega)) dL_law_235 ?_
  refine lv_topi (fun y16 ey16 => ?_)
  obtain rfl : y2 = y16 := ey2.trans ey16.symm
  refine lv_aload_n hx hb dL_law_236 rfl (lv_at hl 0 rfl) ?_
  refine lv_iload_n hx hb dL_law_237 rfl (lv_at hl 3 rfl) ?_
  refine lv_iconst (v := 2) hx hb dL_law_238 (by decide) ?_
  refine lv_iadd hx hb dL_law_239 ?_
  refine lv_topi (fun x17 ex17 => ?_)
  obtain rfl : x3 = x17 := ex3.trans ex17.symm
  refine va_sld hx hb hX hbl hbA hS (z_in rfl (by omega) (by omega)) dL_law_240 ?_
  refine lv_topi (fun y18 ey18 => ?_)
  obtain rfl : y4 = y18 := ey4.trans ey18.symm
  have hjb := lwJ_b hJ
  have hPs := z_swapP hP
  have hDs := z_swapD hD
  have hPc := zP_l hPs
  have hDc := zD_l hDs
  have hFc := zw_free hDc hS hA
  obtain ⟨z20, z21, z22, z23, z24, z25, z26, z27, z28, z29, z30, z31, z32, z33, z34, q35, q36, q37, q38, q39, q40, q41, q42, q43, q44, q45, q46, q47, q48, q49, q50, q51, q52, q53, q54, hs55⟩ := a9_0 hI9.1
  refine va_calli (va_runV (As := [.int y2, .int y4]) (rest := []) ⟨hx, hb, hml, hown, hg⟩ (k_X9_weight l g _ ad9 pe ct9 y2 y4 hI9) (cwV 2 hg (z_gV mm_1112 mm_1113 mm_1114 mm_117 mm_1115) rfl rfl rfl (by decide +kernel) ⟨Nat.le_of_ble_eq_true rfl, Nat.le_of_ble_eq_true rfl⟩) ⟨(zA.pre [.ref (ad9 0), .int y2, .int y4] hPc hK hDc hN).1, va_recv hK hPc (ci := 9) (q0 := 0) rfl (zw_at (by omega) hs55), (zA.pre [.ref (ad9 0), .int y2, .int y4] hPc hK hDc hN).2⟩ rfl rfl hl.1 rfl (lv_room (Nat.le_of_ble_eq_true rfl)) dL_law_241 ⟨(show kq + 0 ≤ 600000 by omega), (show nq + 0 ≤ 7302250 by omega)⟩) hS (fun q _ h => hFc q h) hFc (fun r56 u57 t H1 locs ht hvm hr56 hB hz1 hk1 hS => ?_)
  obtain ⟨ct58, hP1, hD1, hI9⟩ := hB
  rw [ht] at hP1
  obtain ⟨hP, hD⟩ := z_two hPs hDs hk1 hFc hP1 hD1
  have hP := z_swapP hP
  have hD := z_swapD hD
  generalize H1 = H at hP hS ⊢
  refine W.widen (k := kq) (n := nq) (Nat.le_refl _) (Nat.le_refl _) ?_
  refine lv_pop hx hb dL_law_244 rfl ?_
  refine lv_goto (tgt := 1531) hx hb dL_law_245 (by decide) ?_
  exact kk ad8 ad9 ct14 ct58 pe _ _ kq nq ls rfl rfl hP hD hS hI8 hI9 hJ (lv_sub hl [0, 1, 2, 3] rfl)

set_option maxHeartbeats 4000000 in
set_option maxRecDepth 100000 in
theorem op_person {p : Program} {e : Env} {s : State} {m : MethodId} {below : List Frame} {meth : Method} {c : Code} (l : Launch) {b L : Nat} {xs : Nat → Int32} (C0 : lw_At p s m meth c b L xs) (g : zG) (hK : zK g s) (hN : zN s) {A : Nat → Prop} (hA : ∀ q, s.heap.size ≤ q → A q) (hA' : ∀ q, A q → s.heap.size ≤ q) (x0 m0 : Nat) (i : Int32) (hi : 0 ≤ i.toInt ∧ i.toInt ≤ 3066) (hiL : i.toInt + 5 < (L : Int)) (kk : ∀ (ad8b ad9b : Nat → Nat) (ct8b ct9b : Nat → va_E) (peb : Int32) (H : Heap) (locs : List Loc) (kq nq : Nat) (ls : Array Slot), ad8b 0 = x0 → ad9b 0 = m0 → zP g (zw 126 ad8b ct8b ++ zw 32 ad9b ct9b) H → va_D A (zw 126 ad8b ct8b ++ zw 32 ad9b ct9b) → va_S A s.heap H locs → Inv8 g ad8b peb ct8b → IR g ad9b peb ct9b → lwJ kq nq (zlen (ct8b 20)) → lv_has ls 4 [(0, .ref b), (1, .ref x0), (2, .ref m0), (3, .int i)] → W p l e room_1 s m #[Value.ref b] below meth c H locs kq nq (lw_Z below #[Value.ref b] s) (F0 m 1531 ls [])) (ad8 ad9 : Nat → Nat) (ct8 ct9 : Nat → va_E) (pe : Int32) (H : Heap) (locs : List Loc) (kq nq : Nat) (ls : Array Slot) (hx0 : ad8 0 = x0) (hm0 : ad9 0 = m0) (hP : zP g (zw 126 ad8 ct8 ++ zw 32 ad9 ct9) H) (hD : va_D A (zw 126 ad8 ct8 ++ zw 32 ad9 ct9)) (hS : va_S A s.heap H locs) (hI8 : Inv8 g ad8 pe ct8) (hI9 : IR g ad9 pe ct9) (hJ : lwJ kq nq (zlen (ct8 20))) (hl : lv_has ls 4 [(0, .ref b), (1, .ref x0), (2, .ref m0), (3, .int i)]) : W p l e room_1 s m #[Value.ref b] below meth c H locs kq nq (lw_Z below #[Value.ref b] s) (F0 m 248 ls []) := by
  obtain ⟨hx, hb, hr, hml, hown, hts, hX, hbl, hlocks, hgv⟩ := C0
  have hg : ∀ w ∈ zGW, w.before #[Value.ref b] s = true := fun w h => hts w (List.mem_filter.mp h).1
  have hown : s.vm.findClass RL = some m.cls := hown
  have hbA : ¬ A b := fun h => absurd (hA' b h) (Nat.not_le.mpr hbl)
  subst hx0
  subst hm0
  refine lv_aload_n hx hb dL_law_248 rfl (lv_at hl 1 rfl) ?_
  refine lv_aload_n hx hb dL_law_249 rfl (lv_at hl 0 rfl) ?_
  refine lv_iload_n hx hb dL_law_250 rfl (lv_at hl 3 rfl) ?_
  refine lv_iconst (v := 1) hx hb dL_law_251 (by decide) ?_
  refine lv_iadd hx hb dL_law_252 ?_
  refine lv_topi (fun x1 ex1 => ?_)
  have tx1 : x1.toInt = i.toInt + 1 := by rw [ex1]; exact z_add rfl (by decide : (1 : Int32).toInt = 1) (by omega) (by omega)
  refine va_sld hx hb hX hbl hbA hS (z_in rfl (by omega) (by omega)) dL_law_253 ?_
  refine lv_topi (fun y2 ey2 => ?_)
  refine lv_aload_n hx hb dL_law_254 rfl (lv_at hl 0 rfl) ?_
  refine lv_iload_n hx hb dL_law_255 rfl (lv_at hl 3 rfl) ?_
  refine lv_iconst (v := 2) hx hb dL_law_256 (by decide) ?_
  refine lv_iadd hx hb dL_law_257 ?_
  refine lv_topi (fun x3 ex3 => ?_)
  have tx3 : x3.toInt = i.toInt + 2 := by rw [ex3]; exact z_add rfl (by decide : (2 : Int32).toInt = 2) (by omega) (by omega)
  refine va_sld hx hb hX hbl hbA hS (z_in rfl (by omega) (by omega)) dL_law_258 ?_
  refine lv_topi (fun y4 ey4 => ?_)
  refine lv_aload_n hx hb dL_law_259 rfl (lv_at hl 0 rfl) ?_
  refine lv_iload_n hx hb dL_law_260 rfl (lv_at hl 3 rfl) ?_
  refine lv_iconst (v := 3) hx hb dL_law_261 (by decide) ?_
  refine lv_iadd hx hb dL_law_262 ?_
  refine lv_topi (fun x5 ex5 => ?_)
  have tx5 : x5.toInt = i.toInt + 3 := by rw [ex5]; exact z_add rfl (by decide : (3 : Int32).toInt = 3) (by omega) (by omega)
  refine va_sld hx hb hX hbl hbA hS (z_in rfl (by omega) (by omega)) dL_law_263 ?_
  refine lv_topi (fun y6 ey6 => ?_)
  refine lv_aload_n hx hb dL_law_264 rfl (lv_at hl 0 rfl) ?_
  refine lv_iload_n hx hb dL_law_265 rfl (lv_at hl 3 rfl) ?_
  refine lv_iconst (v := 4) hx hb dL_law_266 (by decide) ?_
  refine lv_iadd hx hb dL_law_267 ?_
  refine lv_topi (fun x7 ex7 => ?_)
  have tx7 : x7.toInt = i.toInt + 4 := by rw [ex7]; exact z_add rfl (by decide : (4 : Int32).toInt = 4) (by omega) (by omega)
  refine va_sld hx hb hX hbl hbA hS (z_in rfl (by omega) (by omega)) dL_law_268 ?_
  refine lv_topi (fun y8 ey8 => ?_)
  have hjb := lwJ_b hJ
  have hPc := zP_l hP
  have hDc := zD_l hD
  have hFc := zw_free hDc hS hA
  obtain ⟨z10, z11, q12, q13, q14, hs15⟩ := a8_0 hI8
  refine va_calli (va_runV (As := [.int y2, .int y4, .int y6, .int y8]) (rest := []) ⟨hx, hb, hml, hown, hg⟩ (zs_i hI8 (k_X8_person l g _ ad8 pe ct8 y2 y4 y6 y8 hI8)) (cwV 4 hg (z_gV mm_427 mm_428 mm_429 mm_108 mm_430) rfl rfl rfl (by decide +kernel) ⟨Nat.le_of_ble_eq_true rfl, Nat.le_of_ble_eq_true rfl⟩) ⟨(zA.pre [.ref (ad8 0), .int y2, .int y4, .int y6, .int y8] hPc hK hDc hN).1, va_recv hK hPc (ci := 8) (q0 := 0) rfl (zw_at (by omega) hs15), (zA.pre [.ref (ad8 0), .int y2, .int y4, .int y6, .int y8] hPc hK hDc hN).2⟩ rfl rfl hl.1 rfl (lv_room (Nat.le_of_ble_eq_true rfl)) dL_law_269 ⟨(show kq + 0 ≤ 600000 by omega), (show nq + 0 ≤ 7302250 by omega)⟩) hS (fun q _ h => hFc q h) hFc (fun r16 u17 t H1 locs ht hvm hr16 hB hz1 hk1 hS => ?_)
  obtain ⟨⟨ct18, hP1, hD1, hI8⟩, hzs⟩ := hB
  rw [ht] at hP1 hzs
  have hzl := hzs.eq hP1 hI8
  rw [← hzl] at hJ
  obtain ⟨hP, hD⟩ := z_two hP hD hk1 hFc hP1 hD1
  generalize H1 = H at hP hS ⊢
  refine W.widen (k := kq) (n := nq) (Nat.le_refl _) (Nat.le_refl _) ?_
  refine lv_aload_n hx hb dL_law_272 rfl (lv_at hl 2 rfl) ?_
  refine lv_aload_n hx hb dL_law_273 rfl (lv_at hl 0 rfl) ?_
  refine lv_iload_n hx hb dL_law_274 rfl (lv_at hl 3 rfl) ?_
  refine lv_iconst (v := 1) hx hb dL_law_275 (by decide) ?_
  refine lv_iadd hx hb dL_law_276 ?_
  refine lv_topi (fun x19 ex19 => ?_)
  obtain rfl : x1 = x19 := ex1.trans ex19.symm
  refine va_sld hx hb hX hbl hbA hS (z_in rfl (by omega) (by omega)) dL_law_277 ?_
  refine lv_topi (fun y20 ey20 => ?_)
  obtain rfl : y2 = y20 := ey2.trans ey20.symm
  refine lv_aload_n hx hb dL_law_278 rfl (lv_at hl 0 rfl) ?_
  refine lv_iload_n hx hb dL_law_279 rfl (lv_at hl 3 rfl) ?_
  refine lv_iconst (v := 2) hx hb dL_law_280 (by decide) ?_
  refine lv_iadd hx hb dL_law_281 ?_
  refine lv_topi (fun x21 ex21 => ?_)
  obtain rfl : x3 = x21 := ex3.trans ex21.symm
  refine va_sld hx hb hX hbl hbA hS (z_in rfl (by omega) (by omega)) dL_law_282 ?_
  refine lv_topi (fun y22 ey22 => ?_)
  obtain rfl : y4 = y22 := ey4.trans ey22.symm
  refine lv_aload_n hx hb dL_law_283 rfl (lv_at hl 0 rfl) ?_
  refine lv_iload_n hx hb dL_law_284 rfl (lv_at hl 3 rfl) ?_
  refine lv_iconst (v := 3) hx hb dL_law_285 (by decide) ?_
  refine lv_iadd hx hb dL_law_286 ?_
  refine lv_topi (fun x23 ex23 => ?_)
  obtain rfl : x5 = x23 := ex5.trans ex23.symm
  refine va_sld hx hb hX hbl hbA hS (z_in rfl (by omega) (by omega)) dL_law_287 ?_
  refine lv_topi (fun y24 ey24 => ?_)
  obtain rfl : y6 = y24 := ey6.trans ey24.symm
  refine lv_aload_n hx hb dL_law_288 rfl (lv_at hl 0 rfl) ?_
  refine lv_iload_n hx hb dL_law_289 rfl (lv_at hl 3 rfl) ?_
  refine lv_iconst (v := 4) hx hb dL_law_290 (by decide) ?_
  refine lv_iadd hx hb dL_law_291 ?_
  refine lv_topi (fun x25 ex25 => ?_)
  obtain rfl : x7 = x25 := ex7.trans ex25.symm
  refine va_sld hx hb hX hbl hbA hS (z_in rfl (by omega) (by omega)) dL_law_292 ?_
  refine lv_topi (fun y26 ey26 => ?_)
  obtain rfl : y8 = y26 := ey8.trans ey26.symm
  have hjb := lwJ_b hJ
  have hPs := z_swapP hP
  have hDs := z_swapD hD
  have hPc := zP_l hPs
  have hDc := zD_l hDs
  have hFc := zw_free hDc hS hA
  obtain ⟨z28, z29, z30, z31, z32, z33, z34, z35, z36, z37, z38, z39, z40, z41, z42, q43, q44, q45, q46, q47, q48, q49, q50, q51, q52, q53, q54, q55, q56, q57, q58, q59, q60, q61, q62, hs63⟩ := a9_0 hI9.1
  refine va_calli (va_runV (As := [.int y2, .int y4, .int y6, .int y8]) (rest := [.int r16]) ⟨hx, hb, hml, hown, hg⟩ (k_X9_person l g _ ad9 pe ct9 y2 y4 y6 y8 hI9) (cwV 4 hg (z_gV mm_1116 mm_1117 mm_1118 mm_117 mm_1119) rfl rfl rfl (by decide +kernel) ⟨Nat.le_of_ble_eq_true rfl, Nat.le_of_ble_eq_true rfl⟩) ⟨(zA.pre [.ref (ad9 0), .int y2, .int y4, .int y6, .int y8] hPc hK hDc hN).1, va_recv hK hPc (ci := 9) (q0 := 0) rfl (zw_at (by omega) hs63), (zA.pre [.ref (ad9 0), .int y2, .int y4, .int y6, .int y8] hPc hK hDc hN).2⟩ rfl rfl hl.1 rfl (lv_room (Nat.le_of_ble_eq_true rfl)) dL_law_293 ⟨(show kq + 0 ≤ 600000 by omega), (show nq + 0 ≤ 7302250 by omega)⟩) hS (fun q _ h => hFc q h) hFc (fun r64 u65 t H1 locs ht hvm hr64 hB hz1 hk1 hS => ?_)
  obtain ⟨ct66, hP1, hD1, hI9⟩ := hB
  rw [ht] at hP1
  obtain ⟨hP, hD⟩ := z_two hPs hDs hk1 hFc hP1 hD1
  have hP := z_swapP hP
  have hD := z_swapD hD
  generalize H1 = H at hP hS ⊢
  refine W.widen (k := kq) (n := nq) (Nat.le_refl _) (Nat.le_refl _) ?_
  refine lv_icmp_eq (tgt := 1531) hx hb dL_law_296 (by decide) (fun c67 => ?_) (fun c67 => ?_)
  · skip
    obtain rfl : u65 = u17 := by
      rcases hr16 with ⟨q1, q2, q3⟩ | ⟨q1, q2, q3⟩ <;> rcases hr64 with ⟨w1, w2, w3⟩ | ⟨w1, w2, w3⟩ <;> first | exact w2.trans q2.symm | exact Int32.toInt_inj.mp (by omega) | exact absurd q3 w3 | exact absurd w3 q3
    exact kk ad8 ad9 ct18 ct66 u65 _ _ kq nq ls rfl rfl hP hD hS hI8 hI9 hJ (lv_sub hl [0, 1, 2, 3] rfl)
  · exact absurd (by
        rcases hr16 with ⟨q1, q2, q3⟩ | ⟨q1, q2, q3⟩ <;> rcases hr64 with ⟨w1, w2, w3⟩ | ⟨w1, w2, w3⟩ <;> first | exact q1.trans w1.symm | exact absurd q3 w3 | exact absurd w3 q3) c67

set_option maxHeartbeats 4000000 in
set_option maxRecDepth 100000 in
theorem op_wish {p : Program} {e : Env} {s : State} {m : MethodId} {below : List Frame} {meth : Method} {c : Code} (l : Launch) {b L : Nat} {xs : Nat → Int32} (C0 : lw_At p s m meth c b L xs) (g : zG) (hK : zK g s) (hN : zN s) {A : Nat → Prop} (hA : ∀ q, s.heap.size ≤ q → A q) (hA' : ∀ q, A q → s.heap.size ≤ q) (x0 m0 : Nat) (i : Int32) (hi : 0 ≤ i.toInt ∧ i.toInt ≤ 3066) (hiL : i.toInt + 5 < (L : Int)) (kk : ∀ (ad8b ad9b : Nat → Nat) (ct8b ct9b : Nat → va_E) (peb : Int32) (H : Heap) (locs : List Loc) (kq nq : Nat) (ls : Array Slot), ad8b 0 = x0 → ad9b 0 = m0 → zP g (zw 126 ad8b ct8b ++ zw 32 ad9b ct9b) H → va_D A (zw 126 ad8b ct8b ++ zw 32 ad9b ct9b) → va_S A s.heap H locs → Inv8 g ad8b peb ct8b → IR g ad9b peb ct9b → lwJ kq nq (zlen (ct8b 20)) → lv_has ls 4 [(0, .ref b), (1, .ref x0), (2, .ref m0), (3, .int i)] → W p l e room_1 s m #[Value.ref b] below meth c H locs kq nq (lw_Z below #[Value.ref b] s) (F0 m 1531 ls [])) (ad8 ad9 : Nat → Nat) (ct8 ct9 : Nat → va_E) (pe : Int32) (H : Heap) (locs : List Loc) (kq nq : Nat) (ls : Array Slot) (hx0 : ad8 0 = x0) (hm0 : ad9 0 = m0) (hP : zP g (zw 126 ad8 ct8 ++ zw 32 ad9 ct9) H) (hD : va_D A (zw 126 ad8 ct8 ++ zw 32 ad9 ct9)) (hS : va_S A s.heap H locs) (hI8 : Inv8 g ad8 pe ct8) (hI9 : IR g ad9 pe ct9) (hJ : lwJ kq nq (zlen (ct8 20))) (hl : lv_has ls 4 [(0, .ref b), (1, .ref x0), (2, .ref m0), (3, .int i)]) : W p l e room_1 s m #[Value.ref b] below meth c H locs kq nq (lw_Z below #[Value.ref b] s) (F0 m 301 ls []) := by
  obtain ⟨hx, hb, hr, hml, hown, hts, hX, hbl, hlocks, hgv⟩ := C0
  have hg : ∀ w ∈ zGW, w.before #[Value.ref b] s = true := fun w h => hts w (List.mem_filter.mp h).1
  have hown : s.vm.findClass RL = some m.cls := hown
  have hbA : ¬ A b := fun h => absurd (hA' b h) (Nat.not_le.mpr hbl)
  subst hx0
  subst hm0
  refine lv_aload_n hx hb dL_law_301 rfl (lv_at hl 1 rfl) ?_
  refine lv_aload_n hx hb dL_law_302 rfl (lv_at hl 0 rfl) ?_
  refine lv_iload_n hx hb dL_law_303 rfl (lv_at hl 3 rfl) ?_
  refine lv_iconst (v := 1) hx hb dL_law_304 (by decide) ?_
  refine lv_iadd hx hb dL_law_305 ?_
  refine lv_topi (fun x1 ex1 => ?_)
  have tx1 : x1.toInt = i.toInt + 1 := by rw [ex1]; exact z_add rfl (by decide : (1 : Int32).toInt = 1) (by omega) (by omega)
  refine va_sld hx hb hX hbl hbA hS (z_in rfl (by omega) (by omega)) dL_law_306 ?_
  refine lv_topi (fun y2 ey2 => ?_)
  refine lv_aload_n hx hb dL_law_307 rfl (lv_at hl 0 rfl) ?_
  refine lv_iload_n hx hb dL_law_308 rfl (lv_at hl 3 rfl) ?_
  refine lv_iconst (v := 2) hx hb dL_law_309 (by decide) ?_
  refine lv_iadd hx hb dL_law_310 ?_
  refine lv_topi (fun x3 ex3 => ?_)
  have tx3 : x3.toInt = i.toInt + 2 := by rw [ex3]; exact z_add rfl (by decide : (2 : Int32).toInt = 2) (by omega) (by omega)
  refine va_sld hx hb hX hbl hbA hS (z_in rfl (by omega) (by omega)) dL_law_311 ?_
  refine lv_topi (fun y4 ey4 => ?_)
  have hjb := lwJ_b hJ
  have hPc := zP_l hP
  have hDc := zD_l hD
  have hFc := zw_free hDc hS hA
  obtain ⟨z6, z7, q8, q9, q10, hs11⟩ := a8_0 hI8
  refine va_calli (va_runV (As := [.int y2, .int y4]) (rest := []) ⟨hx, hb, hml, hown, hg⟩ (zs_i hI8 (k_X8_wish l g _ ad8 pe ct8 y2 y4 hI8)) (cwV 2 hg (z_gV mm_513 mm_514 mm_515 mm_108 mm_516) rfl rfl rfl (by decide +kernel) ⟨Nat.le_of_ble_eq_true rfl, Nat.le_of_ble_eq_true rfl⟩) ⟨(zA.pre [.ref (ad8 0), .int y2, .int y4] hPc hK hDc hN).1, va_recv hK hPc (ci := 8) (q0 := 0) rfl (zw_at (by omega) hs11), (zA.pre [.ref (ad8 0), .int y2, .int y4] hPc hK hDc hN).2⟩ rfl rfl hl.1 rfl (lv_room (Nat.le_of_ble_eq_true rfl)) dL_law_312 ⟨(show kq + 0 ≤ 600000 by omega), (show nq + 0 ≤ 7302250 by omega)⟩) hS (fun q _ h => hFc q h) hFc (fun r12 u13 t H1 locs ht hvm hr12 hB hz1 hk1 hS => ?_)
  obtain ⟨⟨ct14, hP1, hD1, hI8⟩, hzs⟩ := hB
  rw [ht] at hP1 hzs
  have hzl := hzs.eq hP1 hI8
  rw [← hzl] at hJ
  obtain ⟨hP, hD⟩ := z_two hP hD hk1 hFc hP1 hD1
  generalize H1 = H at hP hS ⊢
  refine W.widen (k := kq) (n := nq) (Nat.le_refl _) (Nat.le_refl _) ?_
  refine lv_pop hx hb dL_law_315 rfl ?_
  refine lv_aload_n hx hb dL_law_316 rfl (lv_at hl 2 rfl) ?_
  refine lv_aload_n hx hb dL_law_317 rfl (lv_at hl 0 rfl) ?_
  refine lv_iload_n hx hb dL_law_318 rfl (lv_at hl 3 rfl) ?_
  refine lv_iconst (v := 1) hx hb dL_law_319 (by decide) ?_
  refine lv_iadd hx hb dL_law_320 ?_
  refine lv_topi (fun x15 ex15 => ?_)
  obtain rfl : x1 = x15 := ex1.trans ex15.symm
  refine va_sld hx hb hX hbl hbA hS (z_in rfl (by omega) (by omega)) dL_law_321 ?_
  refine lv_topi (fun y16 ey16 => ?_)
  obtain rfl : y2 = y16 := ey2.trans ey16.symm
  refine lv_aload_n hx hb dL_law_322 rfl (lv_at hl 0 rfl) ?_
  refine lv_iload_n hx hb dL_law_323 rfl (lv_at hl 3 rfl) ?_
  refine lv_iconst (v := 2) hx hb dL_law_324 (by decide) ?_
  refine lv_iadd hx hb dL_law_325 ?_
  refine lv_topi (fun x17 ex17 => ?_)
  obtain rfl : x3 = x17 := ex3.trans ex17.symm
  refine va_sld hx hb hX hbl hbA hS (z_in rfl (by omega) (by omega)) dL_law_326 ?_
  refine lv_topi (fun y18 ey18 => ?_)
  obtain rfl : y4 = y18 := ey4.trans ey18.symm
  have hjb := lwJ_b hJ
  have hPs := z_swapP hP
  have hDs := z_swapD hD
  have hPc := zP_l hPs
  have hDc := zD_l hDs
  have hFc := zw_free hDc hS hA
  obtain ⟨z20, z21, z22, z23, z24, z25, z26, z27, z28, z29, z30, z31, z32, z33, z34, q35, q36, q37, q38, q39, q40, q41, q42, q43, q44, q45, q46, q47, q48, q49, q50, q51, q52, q53, q54, hs55⟩ := a9_0 hI9.1
  refine va_calli (va_runV (As := [.int y2, .int y4]) (rest := []) ⟨hx, hb, hml, hown, hg⟩ (k_X9_wish l g _ ad9 pe ct9 y2 y4 hI9) (cwV 2 hg (z_gV mm_1120 mm_1121 mm_1122 mm_117 mm_1123) rfl rfl rfl (by decide +kernel) ⟨Nat.le_of_ble_eq_true rfl, Nat.le_of_ble_eq_true rfl⟩) ⟨(zA.pre [.ref (ad9 0), .int y2, .int y4] hPc hK hDc hN).1, va_recv hK hPc (ci := 9) (q0 := 0) rfl (zw_at (by omega) hs55), (zA.pre [.ref (ad9 0), .int y2, .int y4] hPc hK hDc hN).2⟩ rfl rfl hl.1 rfl (lv_room (Nat.le_of_ble_eq_true rfl)) dL_law_327 ⟨(show kq + 0 ≤ 600000 by omega), (show nq + 0 ≤ 7302250 by omega)⟩) hS (fun q _ h => hFc q h) hFc (fun r56 u57 t H1 locs ht hvm hr56 hB hz1 hk1 hS => ?_)
  obtain ⟨ct58, hP1, hD1, hI9⟩ := hB
  rw [ht] at hP1
  obtain ⟨hP, hD⟩ := z_two hPs hDs hk1 hFc hP1 hD1
  have hP := z_swapP hP
  have hD := z_swapD hD
  generalize H1 = H at hP hS ⊢
  refine W.widen (k := kq) (n := nq) (Nat.le_refl _) (Nat.le_refl _) ?_
  refine lv_pop hx hb dL_law_330 rfl ?_
  refine lv_goto (tgt := 1531) hx hb dL_law_331 (by decide) ?_
  exact kk ad8 ad9 ct14 ct58 pe _ _ kq nq ls rfl rfl hP hD hS hI8 hI9 hJ (lv_sub hl [0, 1, 2, 3] rfl)

set_option maxHeartbeats 4000000 in
set_option maxRecDepth 100000 in
theorem op_feed {p : Program} {e : Env} {s : State} {m : MethodId} {below : List Frame} {meth : Method} {c : Code} (l : Launch) {b L : Nat} {xs : Nat → Int32} (C0 : lw_At p s m meth c b L xs) (g : zG) (hK : zK g s) (hN : zN s) {A : Nat → Prop} (hA : ∀ q, s.heap.size ≤ q → A q) (hA' : ∀ q, A q → s.heap.size ≤ q) (x0 m0 : Nat) (i : Int32) (hi : 0 ≤ i.toInt ∧ i.toInt ≤ 3066) (hiL : i.toInt + 5 < (L : Int)) (kk : ∀ (ad8b ad9b : Nat → Nat) (ct8b ct9b : Nat → va_E) (peb : Int32) (H : Heap) (locs : List Loc) (kq nq : Nat) (ls : Array Slot), ad8b 0 = x0 → ad9b 0 = m0 → zP g (zw 126 ad8b ct8b ++ zw 32 ad9b ct9b) H → va_D A (zw 126 ad8b ct8b ++ zw 32 ad9b ct9b) → va_S A s.heap H locs → Inv8 g ad8b peb ct8b → IR g ad9b peb ct9b → lwJ kq nq (zlen (ct8b 20)) → lv_has ls 4 [(0, .ref b), (1, .ref x0), (2, .ref m0), (3, .int i)] → W p l e room_1 s m #[Value.ref b] below meth c H locs kq nq (lw_Z below #[Value.ref b] s) (F0 m 1531 ls [])) (ad8 ad9 : Nat → Nat) (ct8 ct9 : Nat → va_E) (pe : Int32) (H : Heap) (locs : List Loc) (kq nq : Nat) (ls : Array Slot) (hx0 : ad8 0 = x0) (hm0 : ad9 0 = m0) (hP : zP g (zw 126 ad8 ct8 ++ zw 32 ad9 ct9) H) (hD : va_D A (zw 126 ad8 ct8 ++ zw 32 ad9 ct9)) (hS : va_S A s.heap H locs) (hI8 : Inv8 g ad8 pe ct8) (hI9 : IR g ad9 pe ct9) (hJ : lwJ kq nq (zlen (ct8 20))) (hl : lv_has ls 4 [(0, .ref b), (1, .ref x0), (2, .ref m0), (3, .int i)]) : W p l e room_1 s m #[Value.ref b] below meth c H locs kq nq (lw_Z below #[Value.ref b] s) (F0 m 334 ls []) := by
  obtain ⟨hx, hb, hr, hml, hown, hts, hX, hbl, hlocks, hgv⟩ := C0
  have hg : ∀ w ∈ zGW, w.before #[Value.ref b] s = true := fun w h => hts w (List.mem_filter.mp h).1
  have hown : s.vm.findClass RL = some m.cls := hown
  have hbA : ¬ A b := fun h => absurd (hA' b h) (Nat.not_le.mpr hbl)
  subst hx0
  subst hm0
  refine lv_aload_n hx hb dL_law_334 rfl (lv_at hl 1 rfl) ?_
  refine lv_aload_n hx hb dL_law_335 rfl (lv_at hl 0 rfl) ?_
  refine lv_iload_n hx hb dL_law_336 rfl (lv_at hl 3 rfl) ?_
  refine lv_iconst (v := 1) hx hb dL_law_337 (by decide) ?_
  refine lv_iadd hx hb dL_law_338 ?_
  refine lv_topi (fun x1 ex1 => ?_)
  have tx1 : x1.toInt = i.toInt + 1 := by rw [ex1]; exact z_add rfl (by decide : (1 : Int32).toInt = 1) (by omega) (by omega)
  refine va_sld hx hb hX hbl hbA hS (z_in rfl (by omega) (by omega)) dL_law_339 ?_
  refine lv_topi (fun y2 ey2 => ?_)
  refine lv_aload_n hx hb dL_law_340 rfl (lv_at hl 0 rfl) ?_
  refine lv_iload_n hx hb dL_law_341 rfl (lv_at hl 3 rfl) ?_
  refine lv_iconst (v := 2) hx hb dL_law_342 (by decide) ?_
  refine lv_iadd hx hb dL_law_343 ?_
  refine lv_topi (fun x3 ex3 => ?_)
  have tx3 : x3.toInt = i.toInt + 2 := by rw [ex3]; exact z_add rfl (by decide : (2 : Int32).toInt = 2) (by omega) (by omega)
  refine va_sld hx hb hX hbl hbA hS (z_in rfl (by omega) (by omega)) dL_law_344 ?_
  refine lv_topi (fun y4 ey4 => ?_)
  refine lv_aload_n hx hb dL_law_345 rfl (lv_at hl 0 rfl) ?_
  refine lv_iload_n hx hb dL_law_346 rfl (lv_at hl 3 rfl) ?_
  refine lv_iconst (v := 3) hx hb dL_law_347 (by decide) ?_
  refine lv_iadd hx hb dL_law_348 ?_
  refine lv_topi (fun x5 ex5 => ?_)
  have tx5 : x5.toInt = i.toInt + 3 := by rw [ex5]; exact z_add rfl (by decide : (3 : Int32).toInt = 3) (by omega) (by omega)
  refine va_sld hx hb hX hbl hbA hS (z_in rfl (by omega) (by omega)) dL_law_349 ?_
  refine lv_topi (fun y6 ey6 => ?_)
  refine lv_aload_n hx hb dL_law_350 rfl (lv_at hl 0 rfl) ?_
  refine lv_iload_n hx hb dL_law_351 rfl (lv_at hl 3 rfl) ?_
  refine lv_iconst (v := 4) hx hb dL_law_352 (by decide) ?_
  refine lv_iadd hx hb dL_law_353 ?_
  refine lv_topi (fun x7 ex7 => ?_)
  have tx7 : x7.toInt = i.toInt + 4 := by rw [ex7]; exact z_add rfl (by decide : (4 : Int32).toInt = 4) (by omega) (by omega)
  refine va_sld hx hb hX hbl hbA hS (z_in rfl (by omega) (by omega)) dL_law_354 ?_
  refine lv_topi (fun y8 ey8 => ?_)
  refine lv_aload_n hx hb dL_law_355 rfl (lv_at hl 0 rfl) ?_
  refine lv_iload_n hx hb dL_law_356 rfl (lv_at hl 3 rfl) ?_
  refine lv_iconst (v := 5) hx hb dL_law_357 (by decide) ?_
  refine lv_iadd hx hb dL_law_358 ?_
  refine lv_topi (fun x9 ex9 => ?_)
  have tx9 : x9.toInt = i.toInt + 5 := by rw [ex9]; exact z_add rfl (by decide : (5 : Int32).toInt = 5) (by omega) (by omega)
  refine va_sld hx hb hX hbl hbA hS (z_in rfl (by omega) (by omega)) dL_law_359 ?_
  refine lv_topi (fun y10 ey10 => ?_)
  have hjb := lwJ_b hJ
  have hPc := zP_l hP
  have hDc := zD_l hD
  have hFc := zw_free hDc hS hA
  obtain ⟨z12, z13, q14, q15, q16, hs17⟩ := a8_0 hI8
  refine va_calli (va_runV (As := [.int y2, .int y4, .int y6, .int y8, .int y10]) (rest := []) ⟨hx, hb, hml, hown, hg⟩ (zs_i hI8 (k_X8_feed l g _ ad8 pe ct8 y2 y4 y6 y8 y10 hI8)) (cwV 5 hg (z_gV mm_517 mm_518 mm_519 mm_108 mm_520) rfl rfl rfl (by decide +kernel) ⟨Nat.le_of_ble_eq_true rfl, Nat.le_of_ble_eq_true rfl⟩) ⟨(zA.pre [.ref (ad8 0), .int y2, .int y4, .int y6, .int y8, .int y10] hPc hK hDc hN).1, va_recv hK hPc (ci := 8) (q0 := 0) rfl (zw_at (by omega) hs17), (zA.pre [.ref (ad8 0), .int y2, .int y4, .int y6, .int y8, .int y10] hPc hK hDc hN).2⟩ rfl rfl hl.1 rfl (lv_room (Nat.le_of_ble_eq_true rfl)) dL_law_360 ⟨(show kq + 0 ≤ 600000 by omega), (show nq + 0 ≤ 7302250 by omega)⟩) hS (fun q _ h => hFc q h) hFc (fun r18 u19 t H1 locs ht hvm hr18 hB hz1 hk1 hS => ?_)
  obtain ⟨⟨ct20, hP1, hD1, hI8⟩, hzs⟩ := hB
  rw [ht] at hP1 hzs
  have hzl := hzs.eq hP1 hI8
  rw [← hzl] at hJ
  obtain ⟨hP, hD⟩ := z_two hP hD hk1 hFc hP1 hD1
  generalize H1 = H at hP hS ⊢
  refine W.widen (k := kq) (n := nq) (Nat.le_refl _) (Nat.le_refl _) ?_
  refine lv_pop hx hb dL_law_363 rfl ?_
  refine lv_aload_n hx hb dL_law_364 rfl (lv_at hl 2 rfl) ?_
  refine lv_aload_n hx hb dL_law_365 rfl (lv_at hl 0 rfl) ?_
  refine lv_iload_n hx hb dL_law_366 rfl (lv_at hl 3 rfl) ?_
  refine lv_iconst (v := 1) hx hb dL_law_367 (by decide) ?_
  refine lv_iadd hx hb dL_law_368 ?_
  refine lv_topi (fun x21 ex21 => ?_)
  obtain rfl : x1 = x21 := ex1.trans ex21.symm
  refine va_sld hx hb hX hbl hbA hS (z_in rfl (by omega) (by omega)) dL_law_369 ?_
  refine lv_topi (fun y22 ey22 => ?_)
  obtain rfl : y2 = y22 := ey2.trans ey22.symm
  refine lv_aload_n hx hb dL_law_370 rfl (lv_at hl 0 rfl) ?_
  refine lv_iload_n hx hb dL_law_371 rfl (lv_at hl 3 rfl) ?_
  refine lv_iconst (v := 2) hx hb dL_law_372 (by decide) ?_
  refine lv_iadd hx hb dL_law_373 ?_
  refine lv_topi (fun x23 ex23 => ?_)
  obtain rfl : x3 = x23 := ex3.trans ex23.symm
  refine va_sld hx hb hX hbl hbA hS (z_in rfl (by omega) (by omega)) dL_law_374 ?_
  refine lv_topi (fun y24 ey24 => ?_)
  obtain rfl : y4 = y24 := ey4.trans ey24.symm
  refine lv_aload_n hx hb dL_law_375 rfl (lv_at hl 0 rfl) ?_
  refine lv_iload_n hx hb dL_law_376 rfl (lv_at hl 3 rfl) ?_
  refine lv_iconst (v := 3) hx hb dL_law_377 (by decide) ?_
  refine lv_iadd hx hb dL_law_378 ?_
  refine lv_topi (fun x25 ex25 => ?_)
  obtain rfl : x5 = x25 := ex5.trans ex25.symm
  refine va_sld hx hb hX hbl hbA hS (z_in rfl (by omega) (by omega)) dL_law_379 ?_
  refine lv_topi (fun y26 ey26 => ?_)
  obtain rfl : y6 = y26 := ey6.trans ey26.symm
  refine lv_aload_n hx hb dL_law_380 rfl (lv_at hl 0 rfl) ?_
  refine lv_iload_n hx hb dL_law_381 rfl (lv_at hl 3 rfl) ?_
  refine lv_iconst (v := 4) hx hb dL_law_382 (by decide) ?_
  refine lv_iadd hx hb dL_law_383 ?_
  refine lv_topi (fun x27 ex27 => ?_)
  obtain rfl : x7 = x27 := ex7.trans ex27.symm
  refine va_sld hx hb hX hbl hbA hS (z_in rfl (by omega) (by omega)) dL_law_384 ?_
  refine lv_topi (fun y28 ey28 => ?_)
  obtain rfl : y8 = y28 := ey8.trans ey28.symm
  refine lv_aload_n hx hb dL_law_385 rfl (lv_at hl 0 rfl) ?_
  refine lv_iload_n hx hb dL_law_386 rfl (lv_at hl 3 rfl) ?_
  refine lv_iconst (v := 5) hx hb dL_law_387 (by decide) ?_
  refine lv_iadd hx hb dL_law_388 ?_
  refine lv_topi (fun x29 ex29 => ?_)
  obtain rfl : x9 = x29 := ex9.trans ex29.symm
  refine va_sld hx hb hX hbl hbA hS (z_in rfl (by omega) (by omega)) dL_law_389 ?_
  refine lv_topi (fun y30 ey30 => ?_)
  obtain rfl : y10 = y30 := ey10.trans ey30.symm
  have hjb := lwJ_b hJ
  have hPs := z_swapP hP
  have hDs := z_swapD hD
  have hPc := zP_l hPs
  have hDc := zD_l hDs
  have hFc := zw_free hDc hS hA
  obtain ⟨z32, z33, z34, z35, z36, z37, z38, z39, z40, z41, z42, z43, z44, z45, z46, q47, q48, q49, q50, q51, q52, q53, q54, q55, q56, q57, q58, q59, q60, q61, q62, q63, q64, q65, q66, hs67⟩ := a9_0 hI9.1
  refine va_calli (va_runV (As := [.int y2, .int y4, .int y6, .int y8, .int y10]) (rest := []) ⟨hx, hb, hml, hown, hg⟩ (k_X9_feed l g _ ad9 pe ct9 y2 y4 y6 y8 y10 hI9) (cwV 5 hg (z_gV mm_1198 mm_1199 mm_1200 mm_117 mm_1201) rfl rfl rfl (by decide +kernel) ⟨Nat.le_of_ble_eq_true rfl, Nat.le_of_ble_eq_true rfl⟩) ⟨(zA.pre [.ref (ad9 0), .int y2, .int y4, .int y6, .int y8, .int y10] hPc hK hDc hN).1, va_recv hK hPc (ci := 9) (q0 := 0) rfl (zw_at (by omega) hs67), (zA.pre [.ref (ad9 0), .int y2, .int y4, .int y6, .int y8, .int y10] hPc hK hDc hN).2⟩ rfl rfl hl.1 rfl (lv_room (Nat.le_of_ble_eq_true rfl)) dL_law_390 ⟨(show kq + 0 ≤ 600000 by omega), (show nq + 0 ≤ 7302250 by omega)⟩) hS (fun q _ h => hFc q h) hFc (fun r68 u69 t H1 locs ht hvm hr68 hB hz1 hk1 hS => ?_)
  obtain ⟨ct70, hP1, hD1, hI9⟩ := hB
  rw [ht] at hP1
  obtain ⟨hP, hD⟩ := z_two hPs hDs hk1 hFc hP1 hD1
  have hP := z_swapP hP
  have hD := z_swapD hD
  generalize H1 = H at hP hS ⊢
  refine W.widen (k := kq) (n := nq) (Nat.le_refl _) (Nat.le_refl _) ?_
  refine lv_pop hx hb dL_law_393 rfl ?_
  refine lv_goto (tgt := 1531) hx hb dL_law_394 (by decide) ?_
  exact kk ad8 ad9 ct20 ct70 pe _ _ kq nq ls rfl rfl hP hD hS hI8 hI9 hJ (lv_sub hl [0, 1, 2, 3] rfl)

set_option maxHeartbeats 4000000 in
set_option maxRecDepth 100000 in
theorem op_blurred {p : Program} {e : Env} {s : State} {m : MethodId} {below : List Frame} {meth : Method} {c : Code} (l : Launch) {b L : Nat} {xs : Nat → Int32} (C0 : lw_At p s m meth c b L xs) (g : zG) (hK : zK g s) (hN : zN s) {A : Nat → Prop} (hA : ∀ q, s.heap.size ≤ q → A q) (hA' : ∀ q, A q → s.heap.size ≤ q) (x0 m0 : Nat) (i : Int32) (hi : 0 ≤ i.toInt ∧ i.toInt ≤ 3066) (hiL : i.toInt + 5 < (L : Int)) (kk : ∀ (ad8b ad9b : Nat → Nat) (ct8b ct9b : Nat → va_E) (peb : Int32) (H : Heap) (locs : List Loc) (kq nq : Nat) (ls : Array Slot), ad8b 0 = x0 → ad9b 0 = m0 → zP g (zw 126 ad8b ct8b ++ zw 32 ad9b ct9b) H → va_D A (zw 126 ad8b ct8b ++ zw 32 ad9b ct9b) → va_S A s.heap H locs → Inv8 g ad8b peb ct8b → IR g ad9b peb ct9b → lwJ kq nq (zlen (ct8b 20)) → lv_has ls 4 [(0, .ref b), (1, .ref x0), (2, .ref m0), (3, .int i)] → W p l e room_1 s m #[Value.ref b] below meth c H locs kq nq (lw_Z below #[Value.ref b] s) (F0 m 1531 ls [])) (ad8 ad9 : Nat → Nat) (ct8 ct9 : Nat → va_E) (pe : Int32) (H : Heap) (locs : List Loc) (kq nq : Nat) (ls : Array Slot) (hx0 : ad8 0 = x0) (hm0 : ad9 0 = m0) (hP : zP g (zw 126 ad8 ct8 ++ zw 32 ad9 ct9) H) (hD : va_D A (zw 126 ad8 ct8 ++ zw 32 ad9 ct9)) (hS : va_S A s.heap H locs) (hI8 : Inv8 g ad8 pe ct8) (hI9 : IR g ad9 pe ct9) (hJ : lwJ kq nq (zlen (ct8 20))) (hl : lv_has ls 4 [(0, .ref b), (1, .ref x0), (2, .ref m0), (3, .int i)]) : W p l e room_1 s m #[Value.ref b] below meth c H locs kq nq (lw_Z below #[Value.ref b] s) (F0 m 397 ls []) := by
  obtain ⟨hx, hb, hr, hml, hown, hts, hX, hbl, hlocks, hgv⟩ := C0
  have hg : ∀ w ∈ zGW, w.before #[Value.ref b] s = true := fun w h => hts w (List.mem_filter.mp h).1
  have hown : s.vm.findClass RL = some m.cls := hown
  have hbA : ¬ A b := fun h => absurd (hA' b h) (Nat.not_le.mpr hbl)
  subst hx0
  subst hm0
  refine lv_aload_n hx hb dL_law_397 rfl (lv_at hl 1 rfl) ?_
  refine lv_aload_n hx hb dL_law_398 rfl (lv_at hl 0 rfl) ?_
  refine lv_iload_n hx hb dL_law_399 rfl (lv_at hl 3 rfl) ?_
  refine lv_iconst (v := 1) hx hb dL_law_400 (by decide) ?_
  refine lv_iadd hx hb dL_law_401 ?_
  refine lv_topi (fun x1 ex1 => ?_)
  have tx1 : x1.toInt = i.toInt + 1 := by rw [ex1]; exact z_add rfl (by decide : (1 : Int32).toInt = 1) (by omega) (by omega)
  refine va_sld hx hb hX hbl hbA hS (z_in rfl (by omega) (by omega)) dL_law_402 ?_
  refine lv_topi (fun y2 ey2 => ?_)
  refine lv_aload_n hx hb dL_law_403 rfl (lv_at hl 0 rfl) ?_
  refine lv_iload_n hx hb dL_law_404 rfl (lv_at hl 3 rfl) ?_
  refine lv_iconst (v := 2) hx hb dL_law_405 (by decide) ?_
  refine lv_iadd hx hb dL_law_406 ?_
  refine lv_topi (fun x3 ex3 => ?_)
  have tx3 : x3.toInt = i.toInt + 2 := by rw [ex3]; exact z_add rfl (by decide : (2 : Int32).toInt = 2) (by omega) (by omega)
  refine va_sld hx hb hX hbl hbA hS (z_in rfl (by omega) (by omega)) dL_law_407 ?_
  refine lv_topi (fun y4 ey4 => ?_)
  refine lv_aload_n hx hb dL_law_408 rfl (lv_at hl 0 rfl) ?_
  refine lv_iload_n hx hb dL_law_409 rfl (lv_at hl 3 rfl) ?_
  refine lv_iconst (v := 3) hx hb dL_law_410 (by decide) ?_
  refine lv_iadd hx hb dL_law_411 ?_
  refine lv_topi (fun x5 ex5 => ?_)
  have tx5 : x5.toInt = i.toInt + 3 := by rw [ex5]; exact z_add rfl (by decide : (3 : Int32).toInt = 3) (by omega) (by omega)
  refine va_sld hx hb hX hbl hbA hS (z_in rfl (by omega) (by omega)) dL_law_412 ?_
  refine lv_topi (fun y6 ey6 => ?_)
  have hjb := lwJ_b hJ
  have hPc := zP_l hP
  have hDc := zD_l hD
  obtain ⟨z8, z9, q10, q11, q12, hs13⟩ := a8_0 hI8
  refine zc_i (va_runV (As := [.int y2, .int y4, .int y6]) (rest := []) ⟨hx, hb, hml, hown, hg⟩ (k_X8_blurred l g ad8 pe ct8 y2 y4 y6 hI8) (cwV 3 hg (z_gV mm_525 mm_526 mm_527 mm_108 mm_528) rfl rfl rfl (by decide +kernel) ⟨Nat.le_of_ble_eq_true rfl, Nat.le_of_ble_eq_true rfl⟩) ⟨(zR.pre [.ref (ad8 0), .int y2, .int y4, .int y6] hPc hK hN).1, va_recv hK hPc (ci := 8) (q0 := 0) rfl (zw_at (by omega) hs13), (zR.pre [.ref (ad8 0), .int y2, .int y4, .int y6] hPc hK hN).2⟩ rfl rfl hl.1 rfl (lv_room (Nat.le_of_ble_eq_true rfl)) dL_law_413 ⟨(show kq + 0 ≤ 600000 by omega), (show nq + 0 ≤ 7302250 by omega)⟩) (fun r14 hr14 => ?_)
  refine lv_pop hx hb dL_law_416 rfl ?_
  refine lv_aload_n hx hb dL_law_417 rfl (lv_at hl 2 rfl) ?_
  refine lv_aload_n hx hb dL_law_418 rfl (lv_at hl 0 rfl) ?_
  refine lv_iload_n hx hb dL_law_419 rfl (lv_at hl 3 rfl) ?_
  refine lv_iconst (v := 1) hx hb dL_law_420 (by decide) ?_
  refine lv_iadd hx hb dL_law_421 ?_
  refine lv_topi (fun x15 ex15 => ?_)
  obtain rfl : x1 = x15 := ex1.trans ex15.symm
  refine va_sld hx hb hX hbl hbA hS (z_in rfl (by omega) (by omega)) dL_law_422 ?_
  refine lv_topi (fun y16 ey16 => ?_)
  obtain rfl : y2 = y16 := ey2.trans ey16.symm
  refine lv_aload_n hx hb dL_law_423 rfl (lv_at hl 0 rfl) ?_
  refine lv_iload_n hx hb dL_law_424 rfl (lv_at hl 3 rfl) ?_
  refine lv_iconst (v := 2) hx hb dL_law_425 (by decide) ?_
  refine lv_iadd hx hb dL_law_426 ?_
  refine lv_topi (fun x17 ex17 => ?_)
  obtain rfl : x3 = x17 := ex3.trans ex17.symm
  refine va_sld hx hb hX hbl hbA hS (z_in rfl (by omega) (by omega)) dL_law_427 ?_
  refine lv_topi (fun y18 ey18 => ?_)
  obtain rfl : y4 = y18 := ey4.trans ey18.symm
  refine lv_aload_n hx hb dL_law_428 rfl (lv_at hl 0 rfl) ?_
  refine lv_iload_n hx hb dL_law_429 rfl (lv_at hl 3 rfl) ?_
  refine lv_iconst (v := 3) hx hb dL_law_430 (by decide) ?_
  refine lv_iadd hx hb dL_law_431 ?_
  refine lv_topi (fun x19 ex19 => ?_)
  obtain rfl : x5 = x19 := ex5.trans ex19.symm
  refine va_sld hx hb hX hbl hbA hS (z_in rfl (by omega) (by omega)) dL_law_432 ?_
  refine lv_topi (fun y20 ey20 => ?_)
  obtain rfl : y6 = y20 := ey6.trans ey20.symm
  have hjb := lwJ_b hJ
  have hPs := z_swapP hP
  have hDs := z_swapD hD
  have hPc := zP_l hPs
  have hDc := zD_l hDs
  obtain ⟨z22, z23, z24, z25, z26, z27, z28, z29, z30, z31, z32, z33, z34, z35, z36, q37, q38, q39, q40, q41, q42, q43, q44, q45, q46, q47, q48, q49, q50, q51, q52, q53, q54, q55, q56, hs57⟩ := a9_0 hI9.1
  refine zc_i (va_runV (As := [.int y2, .int y4, .int y6]) (rest := []) ⟨hx, hb, hml, hown, hg⟩ (k_X9_blurred l g ad9 pe ct9 y2 y4 y6 hI9) (cwV 3 hg (z_gV mm_1128 mm_1129 mm_1130 mm_117 mm_1131) rfl rfl rfl (by decide +kernel) ⟨Nat.le_of_ble_eq_true rfl, Nat.le_of_ble_eq_true rfl⟩) ⟨(zR.pre [.ref (ad9 0), .int y2, .int y4, .int y6] hPc hK hN).1, va_recv hK hPc (ci := 9) (q0 := 0) rfl (zw_at (by omega) hs57), (zR.pre [.ref (ad9 0), .int y2, .int y4, .int y6] hPc hK hN).2⟩ rfl rfl hl.1 rfl (lv_room (Nat.le_of_ble_eq_true rfl)) dL_law_433 ⟨(show kq + 0 ≤ 600000 by omega), (show nq + 0 ≤ 7302250 by omega)⟩) (fun r58 hr58 => ?_)
  refine lv_pop hx hb dL_law_436 rfl ?_
  refine lv_goto (tgt := 1531) hx hb dL_law_437 (by decide) ?_
  exact kk ad8 ad9 ct8 ct9 pe _ _ kq nq ls rfl rfl hP hD hS hI8 hI9 hJ (lv_sub hl [0, 1, 2, 3] rfl)

set_option maxHeartbeats 4000000 in
set_option maxRecDepth 100000 in
theorem op_size {p : Program} {e : Env} {s : State} {m : MethodId} {below : List Frame} {meth : Method} {c : Code} (l : Launch) {b L : Nat} {xs : Nat → Int32} (C0 : lw_At p s m meth c b L xs) (g : zG) (hK : zK g s) (hN : zN s) {A : Nat → Prop} (hA : ∀ q, s.heap.size ≤ q → A q) (hA' : ∀ q, A q → s.heap.size ≤ q) (x0 m0 : Nat) (i : Int32) (hi : 0 ≤ i.toInt ∧ i.toInt ≤ 3066) (hiL : i.toInt + 5 < (L : Int)) (kk : ∀ (ad8b ad9b : Nat → Nat) (ct8b ct9b : Nat → va_E) (peb : Int32) (H : Heap) (locs : List Loc) (kq nq : Nat) (ls : Array Slot), ad8b 0 = x0 → ad9b 0 = m0 → zP g (zw 126 ad8b ct8b ++ zw 32 ad9b ct9b) H → va_D A (zw 126 ad8b ct8b ++ zw 32 ad9b ct9b) → va_S A s.heap H locs → Inv8 g ad8b peb ct8b → IR g ad9b peb ct9b → lwJ kq nq (zlen (ct8b 20)) → lv_has ls 4 [(0, .ref b), (1, .ref x0), (2, .ref m0), (3, .int i)] → W p l e room_1 s m #[Value.ref b] below meth c H locs kq nq (lw_Z below #[Value.ref b] s) (F0 m 1531 ls [])) (ad8 ad9 : Nat → Nat) (ct8 ct9 : Nat → va_E) (pe : Int32) (H : Heap) (locs : List Loc) (kq nq : Nat) (ls : Array Slot) (hx0 : ad8 0 = x0) (hm0 : ad9 0 = m0) (hP : zP g (zw 126 ad8 ct8 ++ zw 32 ad9 ct9) H) (hD : va_D A (zw 126 ad8 ct8 ++ zw 32 ad9 ct9)) (hS : va_S A s.heap H locs) (hI8 : Inv8 g ad8 pe ct8) (hI9 : IR g ad9 pe ct9) (hJ : lwJ kq nq (zlen (ct8 20))) (hl : lv_has ls 4 [(0, .ref b), (1, .ref x0), (2, .ref m0), (3, .int i)]) : W p l e room_1 s m #[Value.ref b] below meth c H locs kq nq (lw_Z below #[Value.ref b] s) (F0 m 440 ls []) := by
  obtain ⟨hx, hb, hr, hml, hown, hts, hX, hbl, hlocks, hgv⟩ := C0
  have hg : ∀ w ∈ zGW, w.before #[Value.ref b] s = true := fun w h => hts w (List.mem_filter.mp h).1
  have hown : s.vm.findClass RL = some m.cls := hown
  have hbA : ¬ A b := fun h => absurd (hA' b h) (Nat.not_le.mpr hbl)
  subst hx0
  subst hm0
  refine lv_aload_n hx hb dL_law_440 rfl (lv_at hl 1 rfl) ?_
  refine lv_aload_n hx hb dL_law_441 rfl (lv_at hl 0 rfl) ?_
  refine lv_iload_n hx hb dL_law_442 rfl (lv_at hl 3 rfl) ?_
  refine lv_iconst (v := 1) hx hb dL_law_443 (by decide) ?_
  refine lv_iadd hx hb dL_law_444 ?_
  refine lv_topi (fun x1 ex1 => ?_)
  have tx1 : x1.toInt = i.toInt + 1 := by rw [ex1]; exact z_add rfl (by decide : (1 : Int32).toInt = 1) (by omega) (by omega)
  refine va_sld hx hb hX hbl hbA hS (z_in rfl (by omega) (by omega)) dL_law_445 ?_
  refine lv_topi (fun y2 ey2 => ?_)
  refine lv_aload_n hx hb dL_law_446 rfl (lv_at hl 0 rfl) ?_
  refine lv_iload_n hx hb dL_law_447 rfl (lv_at hl 3 rfl) ?_
  refine lv_iconst (v := 2) hx hb dL_law_448 (by decide) ?_
  refine lv_iadd hx hb dL_law_449 ?_
  refine lv_topi (fun x3 ex3 => ?_)
  have tx3 : x3.toInt = i.toInt + 2 := by rw [ex3]; exact z_add rfl (by decide : (2 : Int32).toInt = 2) (by omega) (by omega)
  refine va_sld hx hb hX hbl hbA hS (z_in rfl (by omega) (by omega)) dL_law_450 ?_
  refine lv_topi (fun y4 ey4 => ?_)
  have hjb := lwJ_b hJ
  have hPc := zP_l hP
  have hDc := zD_l hD
  obtain ⟨z6, z7, q8, q9, q10, hs11⟩ := a8_0 hI8
  refine zc_i (va_runV (As := [.int y2, .int y4]) (rest := []) ⟨hx, hb, hml, hown, hg⟩ (k_X8_size l g ad8 pe ct8 y2 y4 hI8) (cwV 2 hg (z_gV mm_536 mm_537 mm_538 mm_108 mm_539) rfl rfl rfl (by decide +kernel) ⟨Nat.le_of_ble_eq_true rfl, Nat.le_of_ble_eq_true rfl⟩) ⟨(zR.pre [.ref (ad8 0), .int y2, .int y4] hPc hK hN).1, va_recv hK hPc (ci := 8) (q0 := 0) rfl (zw_at (by omega) hs11), (zR.pre [.ref (ad8 0), .int y2, .int y4] hPc hK hN).2⟩ rfl rfl hl.1 rfl (lv_room (Nat.le_of_ble_eq_true rfl)) dL_law_451 ⟨(show kq + 0 ≤ 600000 by omega), (show nq + 0 ≤ 7302250 by omega)⟩) (fun r12 hr12 => ?_)
  refine lv_pop hx hb dL_law_454 rfl ?_
  refine lv_aload_n hx hb dL_law_455 rfl (lv_at hl 2 rfl) ?_
  refine lv_aload_n hx hb dL_law_456 rfl (lv_at hl 0 rfl) ?_
  refine lv_iload_n hx hb dL_law_457 rfl (lv_at hl 3 rfl) ?_
  refine lv_iconst (v := 1) hx hb dL_law_458 (by decide) ?_
  refine lv_iadd hx hb dL_law_459 ?_
  refine lv_topi (fun x13 ex13 => ?_)
  obtain rfl : x1 = x13 := ex1.trans ex13.symm
  refine va_sld hx hb hX hbl hbA hS (z_in rfl (by omega) (by omega)) dL_law_460 ?_
  refine lv_topi (fun y14 ey14 => ?_)
  obtain rfl : y2 = y14 := ey2.trans ey14.symm
  refine lv_aload_n hx hb dL_law_461 rfl (lv_at hl 0 rfl) ?_
  refine lv_iload_n hx hb dL_law_462 rfl (lv_at hl 3 rfl) ?_
  refine lv_iconst (v := 2) hx hb dL_law_463 (by decide) ?_
  refine lv_iadd hx hb dL_law_464 ?_
  refine lv_topi (fun x15 ex15 => ?_)
  obtain rfl : x3 = x15 := ex3.trans ex15.symm
  refine va_sld hx hb hX hbl hbA hS (z_in rfl (by omega) (by omega)) dL_law_465 ?_
  refine lv_topi (fun y16 ey16 => ?_)
  obtain rfl : y4 = y16 := ey4.trans ey16.symm
  have hjb := lwJ_b hJ
  have hPs := z_swapP hP
  have hDs := z_swapD hD
  have hPc := zP_l hPs
  have hDc := zD_l hDs
  obtain ⟨z18, z19, z20, z21, z22, z23, z24, z25, z26, z27, z28, z29, z30, z31, z32, q33, q34, q35, q36, q37, q38, q39, q40, q41, q42, q43, q44, q45, q46, q47, q48, q49, q50, q51, q52, hs53⟩ := a9_0 hI9.1
  refine zc_i (va_runV (As := [.int y2, .int y4]) (rest := []) ⟨hx, hb, hml, hown, hg⟩ (k_X9_size l g ad9 pe ct9 y2 y4 hI9) (cwV 2 hg (z_gV mm_1136 mm_1137 mm_1138 mm_117 mm_1139) rfl rfl rfl (by decide +kernel) ⟨Nat.le_of_ble_eq_true rfl, Nat.le_of_ble_eq_true rfl⟩) ⟨(zR.pre [.ref (ad9 0), .int y2, .int y4] hPc hK hN).1, va_recv hK hPc (ci := 9) (q0 := 0) rfl (zw_at (by omega) hs53), (zR.pre [.ref (ad9 0), .int y2, .int y4] hPc hK hN).2⟩ rfl rfl hl.1 rfl (lv_room (Nat.le_of_ble_eq_true rfl)) dL_law_466 ⟨(show kq + 0 ≤ 600000 by omega), (show nq + 0 ≤ 7302250 by omega)⟩) (fun r54 hr54 => ?_)
  refine lv_pop hx hb dL_law_469 rfl ?_
  refine lv_goto (tgt := 1531) hx hb dL_law_470 (by decide) ?_
  exact kk ad8 ad9 ct8 ct9 pe _ _ kq nq ls rfl rfl hP hD hS hI8 hI9 hJ (lv_sub hl [0, 1, 2, 3] rfl)

set_option maxHeartbeats 4000000 in
set_option maxRecDepth 100000 in
theorem op_book {p : Program} {e : Env} {s : State} {m : MethodId} {below : List Frame} {meth : Method} {c : Code} (l : Launch) {b L : Nat} {xs : Nat → Int32} (C0 : lw_At p s m meth c b L xs) (g : zG) (hK : zK g s) (hN : zN s) {A : Nat → Prop} (hA : ∀ q, s.heap.size ≤ q → A q) (hA' : ∀ q, A q → s.heap.size ≤ q) (x0 m0 : Nat) (i : Int32) (hi : 0 ≤ i.toInt ∧ i.toInt ≤ 3066) (hiL : i.toInt + 5 < (L : Int)) (kk : ∀ (ad8b ad9b : Nat → Nat) (ct8b ct9b : Nat → va_E) (peb : Int32) (H : Heap) (locs : List Loc) (kq nq : Nat) (ls : Array Slot), ad8b 0 = x0 → ad9b 0 = m0 → zP g (zw 126 ad8b ct8b ++ zw 32 ad9b ct9b) H → va_D A (zw 126 ad8b ct8b ++ zw 32 ad9b ct9b) → va_S A s.heap H locs → Inv8 g ad8b peb ct8b → IR g ad9b peb ct9b → lwJ kq nq (zlen (ct8b 20)) → lv_has ls 4 [(0, .ref b), (1, .ref x0), (2, .ref m0), (3, .int i)] → W p l e room_1 s m #[Value.ref b] below meth c H locs kq nq (lw_Z below #[Value.ref b] s) (F0 m 1531 ls [])) (ad8 ad9 : Nat → Nat) (ct8 ct9 : Nat → va_E) (pe : Int32) (H : Heap) (locs : List Loc) (kq nq : Nat) (ls : Array Slot) (hx0 : ad8 0 = x0) (hm0 : ad9 0 = m0) (hP : zP g (zw 126 ad8 ct8 ++ zw 32 ad9 ct9) H) (hD : va_D A (zw 126 ad8 ct8 ++ zw 32 ad9 ct9)) (hS : va_S A s.heap H locs) (hI8 : Inv8 g ad8 pe ct8) (hI9 : IR g ad9 pe ct9) (hJ : lwJ kq nq (zlen (ct8 20))) (hl : lv_has ls 4 [(0, .ref b), (1, .ref x0), (2, .ref m0), (3, .int i)]) : W p l e room_1 s m #[Value.ref b] below meth c H locs kq nq (lw_Z below #[Value.ref b] s) (F0 m 473 ls []) := by
  obtain ⟨hx, hb, hr, hml, hown, hts, hX, hbl, hlocks, hgv⟩ := C0
  have hg : ∀ w ∈ zGW, w.before #[Value.ref b] s = true := fun w h => hts w (List.mem_filter.mp h).1
  have hown : s.vm.findClass RL = some m.cls := hown
  have hbA : ¬ A b := fun h => absurd (hA' b h) (Nat.not_le.mpr hbl)
  subst hx0
  subst hm0
  refine lv_aload_n hx hb dL_law_473 rfl (lv_at hl 1 rfl) ?_
  refine lv_aload_n hx hb dL_law_474 rfl (lv_at hl 0 rfl) ?_
  refine lv_iload_n hx hb dL_law_475 rfl (lv_at hl 3 rfl) ?_
  refine lv_iconst (v := 1) hx hb dL_law_476 (by decide) ?_
  refine lv_iadd hx hb dL_law_477 ?_
  refine lv_topi (fun x1 ex1 => ?_)
  have tx1 : x1.toInt = i.toInt + 1 := by rw [ex1]; exact z_add rfl (by decide : (1 : Int32).toInt = 1) (by omega) (by omega)
  refine va_sld hx hb hX hbl hbA hS (z_in rfl (by omega) (by omega)) dL_law_478 ?_
  refine lv_topi (fun y2 ey2 => ?_)
  refine lv_aload_n hx hb dL_law_479 rfl (lv_at hl 0 rfl) ?_
  refine lv_iload_n hx hb dL_law_480 rfl (lv_at hl 3 rfl) ?_
  refine lv_iconst (v := 2) hx hb dL_law_481 (by decide) ?_
  refine lv_iadd hx hb dL_law_482 ?_
  refine lv_topi (fun x3 ex3 => ?_)
  have tx3 : x3.toInt = i.toInt + 2 := by rw [ex3]; exact z_add rfl (by decide : (2 : Int32).toInt = 2) (by omega) (by omega)
  refine va_sld hx hb hX hbl hbA hS (z_in rfl (by omega) (by omega)) dL_law_483 ?_
  refine lv_topi (fun y4 ey4 => ?_)
  refine lv_aload_n hx hb dL_law_484 rfl (lv_at hl 0 rfl) ?_
  refine lv_iload_n hx hb dL_law_485 rfl (lv_at hl 3 rfl) ?_
  refine lv_iconst (v := 3) hx hb dL_law_486 (by decide) ?_
  refine lv_iadd hx hb dL_law_487 ?_
  refine lv_topi (fun x5 ex5 => ?_)
  have tx5 : x5.toInt = i.toInt + 3 := by rw [ex5]; exact z_add rfl (by decide : (3 : Int32).toInt = 3) (by omega) (by omega)
  refine va_sld hx hb hX hbl hbA hS (z_in rfl (by omega) (by omega)) dL_law_488 ?_
  refine lv_topi (fun y6 ey6 => ?_)
  refine lv_aload_n hx hb dL_law_489 rfl (lv_at hl 0 rfl) ?_
  refine lv_iload_n hx hb dL_law_490 rfl (lv_at hl 3 rfl) ?_
  refine lv_iconst (v := 4) hx hb dL_law_491 (by decide) ?_
  refine lv_iadd hx hb dL_law_492 ?_
  refine lv_topi (fun x7 ex7 => ?_)
  have tx7 : x7.toInt = i.toInt + 4 := by rw [ex7]; exact z_add rfl (by decide : (4 : Int32).toInt = 4) (by omega) (by omega)
  refine va_sld hx hb hX hbl hbA hS (z_in rfl (by omega) (by omega)) dL_law_493 ?_
  refine lv_topi (fun y8 ey8 => ?_)
  refine lv_aload_n hx hb dL_law_494 rfl (lv_at hl 0 rfl) ?_
  refine lv_iload_n hx hb dL_law_495 rfl (lv_at hl 3 rfl) ?_
  refine lv_iconst (v := 5) hx hb dL_law_496 (by decide) ?_
  refine lv_iadd hx hb dL_law_497 ?_
  refine lv_topi (fun x9 ex9 => ?_)
  have tx9 : x9.toInt = i.toInt + 5 := by rw [ex9]; exact z_add rfl (by decide : (5 : Int32).toInt = 5) (by omega) (by omega)
  refine va_sld hx hb hX hbl hbA hS (z_in rfl (by omega) (by omega)) dL_law_498 ?_
  refine lv_topi (fun y10 ey10 => ?_)
  have hjb := lwJ_b hJ
  have hPc := zP_l hP
  have hDc := zD_l hD
  have hFc := zw_free hDc hS hA
  obtain ⟨z12, z13, q14, q15, q16, hs17⟩ := a8_0 hI8
  refine va_calli (va_runV (As := [.int y2, .int y4, .int y6, .int y8, .int y10]) (rest := []) ⟨hx, hb, hml, hown, hg⟩ (zs_i hI8 (k_X8_book l g _ ad8 pe ct8 y2 y4 y6 y8 y10 hI8)) (cwV 5 hg (z_gV mm_544 mm_545 mm_546 mm_108 mm_547) rfl rfl rfl (by decide +kernel) ⟨Nat.le_of_ble_eq_true rfl, Nat.le_of_ble_eq_true rfl⟩) ⟨(zA.pre [.ref (ad8 0), .int y2, .int y4, .int y6, .int y8, .int y10] hPc hK hDc hN).1, va_recv hK hPc (ci := 8) (q0 := 0) rfl (zw_at (by omega) hs17), (zA.pre [.ref (ad8 0), .int y2, .int y4, .int y6, .int y8, .int y10] hPc hK hDc hN).2⟩ rfl rfl hl.1 rfl (lv_room (Nat.le_of_ble_eq_true rfl)) dL_law_499 ⟨(show kq + 0 ≤ 600000 by omega), (show nq + 0 ≤ 7302250 by omega)⟩) hS (fun q _ h => hFc q h) hFc (fun r18 u19 t H1 locs ht hvm hr18 hB hz1 hk1 hS => ?_)
  obtain ⟨⟨ct20, hP1, hD1, hI8⟩, hzs⟩ := hB
  rw [ht] at hP1 hzs
  have hzl := hzs.eq hP1 hI8
  rw [← hzl] at hJ
  obtain ⟨hP, hD⟩ := z_two hP hD hk1 hFc hP1 hD1
  generalize H1 = H at hP hS ⊢
  refine W.widen (k := kq) (n := nq) (Nat.le_refl _) (Nat.le_refl _) ?_
  refine lv_pop hx hb dL_law_502 rfl ?_
  refine lv_aload_n hx hb dL_law_503 rfl (lv_at hl 2 rfl) ?_
  refine lv_aload_n hx hb dL_law_504 rfl (lv_at hl 0 rfl) ?_
  refine lv_iload_n hx hb dL_law_505 rfl (lv_at hl 3 rfl) ?_
  refine lv_iconst (v := 1) hx hb dL_law_506 (by decide) ?_
  refine lv_iadd hx hb dL_law_507 ?_
  refine lv_topi (fun x21 ex21 => ?_)
  obtain rfl : x1 = x21 := ex1.trans ex21.symm
  refine va_sld hx hb hX hbl hbA hS (z_in rfl (by omega) (by omega)) dL_law_508 ?_
  refine lv_topi (fun y22 ey22 => ?_)
  obtain rfl : y2 = y22 := ey2.trans ey22.symm
  refine lv_aload_n hx hb dL_law_509 rfl (lv_at hl 0 rfl) ?_
  refine lv_iload_n hx hb dL_law_510 rfl (lv_at hl 3 rfl) ?_
  refine lv_iconst (v := 2) hx hb dL_law_511 (by decide) ?_
  refine lv_iadd hx hb dL_law_512 ?_
  refine lv_topi (fun x23 ex23 => ?_)
  obtain rfl : x3 = x23 := ex3.trans ex23.symm
  refine va_sld hx hb hX hbl hbA hS (z_in rfl (by omega) (by omega)) dL_law_513 ?_
  refine lv_topi (fun y24 ey24 => ?_)
  obtain rfl : y4 = y24 := ey4.trans ey24.symm
  refine lv_aload_n hx hb dL_law_514 rfl (lv_at hl 0 rfl) ?_
  refine lv_iload_n hx hb dL_law_515 rfl (lv_at hl 3 rfl) ?_
  refine lv_iconst (v := 3) hx hb dL_law_516 (by decide) ?_
  refine lv_iadd hx hb dL_law_517 ?_
  refine lv_topi (fun x25 ex25 => ?_)
  obtain rfl : x5 = x25 := ex5.trans ex25.symm
  refine va_sld hx hb hX hbl hbA hS (z_in rfl (by omega) (by omega)) dL_law_518 ?_
  refine lv_topi (fun y26 ey26 => ?_)
  obtain rfl : y6 = y26 := ey6.trans ey26.symm
  refine lv_aload_n hx hb dL_law_519 rfl (lv_at hl 0 rfl) ?_
  refine lv_iload_n hx hb dL_law_520 rfl (lv_at hl 3 rfl) ?_
  refine lv_iconst (v := 4) hx hb dL_law_521 (by decide) ?_
  refine lv_iadd hx hb dL_law_522 ?_
  refine lv_topi (fun x27 ex27 => ?_)
  obtain rfl : x7 = x27 := ex7.trans ex27.symm
  refine va_sld hx hb hX hbl hbA hS (z_in rfl (by omega) (by omega)) dL_law_523 ?_
  refine lv_topi (fun y28 ey28 => ?_)
  obtain rfl : y8 = y28 := ey8.trans ey28.symm
  refine lv_aload_n hx hb dL_law_524 rfl (lv_at hl 0 rfl) ?_
  refine lv_iload_n hx hb dL_law_525 rfl (lv_at hl 3 rfl) ?_
  refine lv_iconst (v := 5) hx hb dL_law_526 (by decide) ?_
  refine lv_iadd hx hb dL_law_527 ?_
  refine lv_topi (fun x29 ex29 => ?_)
  obtain rfl : x9 = x29 := ex9.trans ex29.symm
  refine va_sld hx hb hX hbl hbA hS (z_in rfl (by omega) (by omega)) dL_law_528 ?_
  refine lv_topi (fun y30 ey30 => ?_)
  obtain rfl : y10 = y30 := ey10.trans ey30.symm
  have hjb := lwJ_b hJ
  have hPs := z_swapP hP
  have hDs := z_swapD hD
  have hPc := zP_l hPs
  have hDc := zD_l hDs
  have hFc := zw_free hDc hS hA
  obtain ⟨z32, z33, z34, z35, z36, z37, z38, z39, z40, z41, z42, z43, z44, z45, z46, q47, q48, q49, q50, q51, q52, q53, q54, q55, q56, q57, q58, q59, q60, q61, q62, q63, q64, q65, q66, hs67⟩ := a9_0 hI9.1
  refine va_calli (va_runV (As := [.int y2, .int y4, .int y6, .int y8, .int y10]) (rest := []) ⟨hx, hb, hml, hown, hg⟩ (k_X9_book l g _ ad9 pe ct9 y2 y4 y6 y8 y10 hI9) (cwV 5 hg (z_gV mm_1148 mm_1149 mm_1150 mm_117 mm_1151) rfl rfl rfl (by decide +kernel) ⟨Nat.le_of_ble_eq_true rfl, Nat.le_of_ble_eq_true rfl⟩) ⟨(zA.pre [.ref (ad9 0), .int y2, .int y4, .int y6, .int y8, .int y10] hPc hK hDc hN).1, va_recv hK hPc (ci := 9) (q0 := 0) rfl (zw_at (by omega) hs67), (zA.pre [.ref (ad9 0), .int y2, .int y4, .int y6, .int y8, .int y10] hPc hK hDc hN).2⟩ rfl rfl hl.1 rfl (lv_room (Nat.le_of_ble_eq_true rfl)) dL_law_529 ⟨(show kq + 0 ≤ 600000 by omega), (show nq + 0 ≤ 7302250 by omega)⟩) hS (fun q _ h => hFc q h) hFc (fun r68 u69 t H1 locs ht hvm hr68 hB hz1 hk1 hS => ?_)
  obtain ⟨ct70, hP1, hD1, hI9⟩ := hB
  rw [ht] at hP1
  obtain ⟨hP, hD⟩ := z_two hPs hDs hk1 hFc hP1 hD1
  have hP := z_swapP hP
  have hD := z_swapD hD
  generalize H1 = H at hP hS ⊢
  refine W.widen (k := kq) (n := nq) (Nat.le_refl _) (Nat.le_refl _) ?_
  refine lv_pop hx hb dL_law_532 rfl ?_
  refine lv_goto (tgt := 1531) hx hb dL_law_533 (by decide) ?_
  exact kk ad8 ad9 ct20 ct70 pe _ _ kq nq ls rfl rfl hP hD hS hI8 hI9 hJ (lv_sub hl [0, 1, 2, 3] rfl)

set_option maxHeartbeats 4000000 in
set_option maxRecDepth 100000 in
theorem op_cut {p : Program} {e : Env} {s : State} {m : MethodId} {below : List Frame} {meth : Method} {c : Code} (l : Launch) {b L : Nat} {xs : Nat → Int32} (C0 : lw_At p s m meth c b L xs) (g : zG) (hK : zK g s) (hN : zN s) {A : Nat → Prop} (hA : ∀ q, s.heap.size ≤ q → A q) (hA' : ∀ q, A q → s.heap.size ≤ q) (x0 m0 : Nat) (i : Int32) (hi : 0 ≤ i.toInt ∧ i.toInt ≤ 3066) (hiL : i.toInt + 5 < (L : Int)) (kk : ∀ (ad8b ad9b : Nat → Nat) (ct8b ct9b : Nat → va_E) (peb : Int32) (H : Heap) (locs : List Loc) (kq nq : Nat) (ls : Array Slot), ad8b 0 = x0 → ad9b 0 = m0 → zP g (zw 126 ad8b ct8b ++ zw 32 ad9b ct9b) H → va_D A (zw 126 ad8b ct8b ++ zw 32 ad9b ct9b) → va_S A s.heap H locs → Inv8 g ad8b peb ct8b → IR g ad9b peb ct9b → lwJ kq nq (zlen (ct8b 20)) → lv_has ls 4 [(0, .ref b), (1, .ref x0), (2, .ref m0), (3, .int i)] → W p l e room_1 s m #[Value.ref b] below meth c H locs kq nq (lw_Z below #[Value.ref b] s) (F0 m 1531 ls [])) (ad8 ad9 : Nat → Nat) (ct8 ct9 : Nat → va_E) (pe : Int32) (H : Heap) (locs : List Loc) (kq nq : Nat) (ls : Array Slot) (hx0 : ad8 0 = x0) (hm0 : ad9 0 = m0) (hP : zP g (zw 126 ad8 ct8 ++ zw 32 ad9 ct9) H) (hD : va_D A (zw 126 ad8 ct8 ++ zw 32 ad9 ct9)) (hS : va_S A s.heap H locs) (hI8 : Inv8 g ad8 pe ct8) (hI9 : IR g ad9 pe ct9) (hJ : lwJ kq nq (zlen (ct8 20))) (hl : lv_has ls 4 [(0, .ref b), (1, .ref x0), (2, .ref m0), (3, .int i)]) : W p l e room_1 s m #[Value.ref b] below meth c H locs kq nq (lw_Z below #[Value.ref b] s) (F0 m 536 ls []) := by
  obtain ⟨hx, hb, hr, hml, hown, hts, hX, hbl, hlocks, hgv⟩ := C0
  have hg : ∀ w ∈ zGW, w.before #[Value.ref b] s = true := fun w h => hts w (List.mem_filter.mp h).1
  have hown : s.vm.findClass RL = some m.cls := hown
  have hbA : ¬ A b := fun h => absurd (hA' b h) (Nat.not_le.mpr hbl)
  subst hx0
  subst hm0
  refine lv_aload_n hx hb dL_law_536 rfl (lv_at hl 1 rfl) ?_
  refine lv_aload_n hx hb dL_law_537 rfl (lv_at hl 0 rfl) ?_
  refine lv_iload_n hx hb dL_law_538 rfl (lv_at hl 3 rfl) ?_
  refine lv_iconst (v := 1) hx hb dL_law_539 (by decide) ?_
  refine lv_iadd hx hb dL_law_540 ?_
  refine lv_topi (fun x1 ex1 => ?_)
  have tx1 : x1.toInt = i.toInt + 1 := by rw [ex1]; exact z_add rfl (by decide : (1 : Int32).toInt = 1) (by omega) (by omega)
  refine va_sld hx hb hX hbl hbA hS (z_in rfl (by omega) (by omega)) dL_law_541 ?_
  refine lv_topi (fun y2 ey2 => ?_)
  refine lv_aload_n hx hb dL_law_542 rfl (lv_at hl 0 rfl) ?_
  refine lv_iload_n hx hb dL_law_543 rfl (lv_at hl 3 rfl) ?_
  refine lv_iconst (v := 2) hx hb dL_law_544 (by decide) ?_
  refine lv_iadd hx hb dL_law_545 ?_
  refine lv_topi (fun x3 ex3 => ?_)
  have tx3 : x3.toInt = i.toInt + 2 := by rw [ex3]; exact z_add rfl (by decide : (2 : Int32).toInt = 2) (by omega) (by omega)
  refine va_sld hx hb hX hbl hbA hS (z_in rfl (by omega) (by omega)) dL_law_546 ?_
  refine lv_topi (fun y4 ey4 => ?_)
  have hjb := lwJ_b hJ
  have hPc := zP_l hP
  have hDc := zD_l hD
  have hFc := zw_free hDc hS hA
  obtain ⟨z6, z7, q8, q9, q10, hs11⟩ := a8_0 hI8
  refine va_calli (va_runV (As := [.int y2, .int y4]) (rest := []) ⟨hx, hb, hml, hown, hg⟩ (zs_i hI8 (k_X8_cut l g _ ad8 pe ct8 y2 y4 hI8)) (cwV 2 hg (z_gV mm_579 mm_580 mm_581 mm_108 mm_582) rfl rfl rfl (by decide +kernel) ⟨Nat.le_of_ble_eq_true rfl, Nat.le_of_ble_eq_true rfl⟩) ⟨(zA.pre [.ref (ad8 0), .int y2, .int y4] hPc hK hDc hN).1, va_recv hK hPc (ci := 8) (q0 := 0) rfl (zw_at (by omega) hs11), (zA.pre [.ref (ad8 0), .int y2, .int y4] hPc hK hDc hN).2⟩ rfl rfl hl.1 rfl (lv_room (Nat.le_of_ble_eq_true rfl)) dL_law_547 ⟨(show kq + 0 ≤ 600000 by omega), (show nq + 0 ≤ 7302250 by omega)⟩) hS (fun q _ h => hFc q h) hFc (fun r12 u13 t H1 locs ht hvm hr12 hB hz1 hk1 hS => ?_)
  obtain ⟨⟨ct14, hP1, hD1, hI8⟩, hzs⟩ := hB
  rw [ht] at hP1 hzs
  have hzl := hzs.eq hP1 hI8
  rw [← hzl] at hJ
  obtain ⟨hP, hD⟩ := z_two hP hD hk1 hFc hP1 hD1
  generalize H1 = H at hP hS ⊢
  refine W.widen (k := kq) (n := nq) (Nat.le_refl _) (Nat.le_refl _) ?_
  refine lv_pop hx hb dL_law_550 rfl ?_
  refine lv_aload_n hx hb dL_law_551 rfl (lv_at hl 2 rfl) ?_
  refine lv_aload_n hx hb dL_law_552 rfl (lv_at hl 0 rfl) ?_
  refine lv_iload_n hx hb dL_law_553 rfl (lv_at hl 3 rfl) ?_
  refine lv_iconst (v := 1) hx hb dL_law_554 (by decide) ?_
  refine lv_iadd hx hb dL_law_555 ?_
  refine lv_topi (fun x15 ex15 => ?_)
  obtain rfl : x1 = x15 := ex1.trans ex15.symm
  refine va_sld hx hb hX hbl hbA hS (z_in rfl (by omega) (by omega)) dL_law_556 ?_
  refine lv_topi (fun y16 ey16 => ?_)
  obtain rfl : y2 = y16 := ey2.trans ey16.symm
  refine lv_aload_n hx hb dL_law_557 rfl (lv_at hl 0 rfl) ?_
  refine lv_iload_n hx hb dL_law_558 rfl (lv_at hl 3 rfl) ?_
  refine lv_iconst (v := 2) hx hb dL_law_559 (by decide) ?_
  refine lv_iadd hx hb dL_law_560 ?_
  refine lv_topi (fun x17 ex17 => ?_)
  obtain rfl : x3 = x17 := ex3.trans ex17.symm
  refine va_sld hx hb hX hbl hbA hS (z_in rfl (by omega) (by omega)) dL_law_561 ?_
  refine lv_topi (fun y18 ey18 => ?_)
  obtain rfl : y4 = y18 := ey4.trans ey18.symm
  have hjb := lwJ_b hJ
  have hPs := z_swapP hP
  have hDs := z_swapD hD
  have hPc := zP_l hPs
  have hDc := zD_l hDs
  have hFc := zw_free hDc hS hA
  obtain ⟨z20, z21, z22, z23, z24, z25, z26, z27, z28, z29, z30, z31, z32, z33, z34, q35, q36, q37, q38, q39, q40, q41, q42, q43, q44, q45, q46, q47, q48, q49, q50, q51, q52, q53, q54, hs55⟩ := a9_0 hI9.1
  refine va_calli (va_runV (As := [.int y2, .int y4]) (rest := []) ⟨hx, hb, hml, hown, hg⟩ (k_X9_cut l g _ ad9 pe ct9 y2 y4 hI9) (cwV 2 hg (z_gV mm_1162 mm_1163 mm_1164 mm_117 mm_1165) rfl rfl rfl (by decide +kernel) ⟨Nat.le_of_ble_eq_true rfl, Nat.le_of_ble_eq_true rfl⟩) ⟨(zA.pre [.ref (ad9 0), .int y2, .int y4] hPc hK hDc hN).1, va_recv hK hPc (ci := 9) (q0 := 0) rfl (zw_at (by omega) hs55), (zA.pre [.ref (ad9 0), .int y2, .int y4] hPc hK hDc hN).2⟩ rfl rfl hl.1 rfl (lv_room (Nat.le_of_ble_eq_true rfl)) dL_law_562 ⟨(show kq + 0 ≤ 600000 by omega), (show nq + 0 ≤ 7302250 by omega)⟩) hS (fun q _ h => hFc q h) hFc (fun r56 u57 t H1 locs ht hvm hr56 hB hz1 hk1 hS => ?_)
  obtain ⟨ct58, hP1, hD1, hI9⟩ := hB
  rw [ht] at hP1
  obtain ⟨hP, hD⟩ := z_two hPs hDs hk1 hFc hP1 hD1
  have hP := z_swapP hP
  have hD := z_swapD hD
  generalize H1 = H at hP hS ⊢
  refine W.widen (k := kq) (n := nq) (Nat.le_refl _) (Nat.le_refl _) ?_
  refine lv_pop hx hb dL_law_565 rfl ?_
  refine lv_goto (tgt := 1531) hx hb dL_law_566 (by decide) ?_
  exact kk ad8 ad9 ct14 ct58 pe _ _ kq nq ls rfl rfl hP hD hS hI8 hI9 hJ (lv_sub hl [0, 1, 2, 3] rfl)

set_option maxHeartbeats 4000000 in
set_option maxRecDepth 100000 in
theorem op_swap {p : Program} {e : Env} {s : State} {m : MethodId} {below : List Frame} {meth : Method} {c : Code} (l : Launch) {b L : Nat} {xs : Nat → Int32} (C0 : lw_At p s m meth c b L xs) (g : zG) (hK : zK g s) (hN : zN s) {A : Nat → Prop} (hA : ∀ q, s.heap.size ≤ q → A q) (hA' : ∀ q, A q → s.heap.size ≤ q) (x0 m0 : Nat) (i : Int32) (hi : 0 ≤ i.toInt ∧ i.toInt ≤ 3066) (hiL : i.toInt + 5 < (L : Int)) (kk : ∀ (ad8b ad9b : Nat → Nat) (ct8b ct9b : Nat → va_E) (peb : Int32) (H : Heap) (locs : List Loc) (kq nq : Nat) (ls : Array Slot), ad8b 0 = x0 → ad9b 0 = m0 → zP g (zw 126 ad8b ct8b ++ zw 32 ad9b ct9b) H → va_D A (zw 126 ad8b ct8b ++ zw 32 ad9b ct9b) → va_S A s.heap H locs → Inv8 g ad8b peb ct8b → IR g ad9b peb ct9b → lwJ kq nq (zlen (ct8b 20)) → lv_has ls 4 [(0, .ref b), (1, .ref x0), (2, .ref m0), (3, .int i)] → W p l e room_1 s m #[Value.ref b] below meth c H locs kq nq (lw_Z below #[Value.ref b] s) (F0 m 1531 ls [])) (ad8 ad9 : Nat → Nat) (ct8 ct9 : Nat → va_E) (pe : Int32) (H : Heap) (locs : List Loc) (kq nq : Nat) (ls : Array Slot) (hx0 : ad8 0 = x0) (hm0 : ad9 0 = m0) (hP : zP g (zw 126 ad8 ct8 ++ zw 32 ad9 ct9) H) (hD : va_D A (zw 126 ad8 ct8 ++ zw 32 ad9 ct9)) (hS : va_S A s.heap H locs) (hI8 : Inv8 g ad8 pe ct8) (hI9 : IR g ad9 pe ct9) (hJ : lwJ kq nq (zlen (ct8 20))) (hl : lv_has ls 4 [(0, .ref b), (1, .ref x0), (2, .ref m0), (3, .int i)]) : W p l e room_1 s m #[Value.ref b] below meth c H locs kq nq (lw_Z below #[Value.ref b] s) (F0 m 569 ls []) := by
  obtain ⟨hx, hb, hr, hml, hown, hts, hX, hbl, hlocks, hgv⟩ := C0
  have hg : ∀ w ∈ zGW, w.before #[Value.ref b] s = true := fun w h => hts w (List.mem_filter.mp h).1
  have hown : s.vm.findClass RL = some m.cls := hown
  have hbA : ¬ A b := fun h => absurd (hA' b h) (Nat.not_le.mpr hbl)
  subst hx0
  subst hm0
  refine lv_aload_n hx hb dL_law_569 rfl (lv_at hl 1 rfl) ?_
  refine lv_aload_n hx hb dL_law_570 rfl (lv_at hl 0 rfl) ?_
  refine lv_iload_n hx hb dL_law_571 rfl (lv_at hl 3 rfl) ?_
  refine lv_iconst (v := 1) hx hb dL_law_572 (by decide) ?_
  refine lv_iadd hx hb dL_law_573 ?_
  refine lv_topi (fun x1 ex1 => ?_)
  have tx1 : x1.toInt = i.toInt + 1 := by rw [ex1]; exact z_add rfl (by decide : (1 : Int32).toInt = 1) (by omega) (by omega)
  refine va_sld hx hb hX hbl hbA hS (z_in rfl (by omega) (by omega)) dL_law_574 ?_
  refine lv_topi (fun y2 ey2 => ?_)
  refine lv_aload_n hx hb dL_law_575 rfl (lv_at hl 0 rfl) ?_
  refine lv_iload_n hx hb dL_law_576 rfl (lv_at hl 3 rfl) ?_
  refine lv_iconst (v := 2) hx hb dL_law_577 (by decide) ?_
  refine lv_iadd hx hb dL_law_578 ?_
  refine lv_topi (fun x3 ex3 => ?_)
  have tx3 : x3.toInt = i.toInt + 2 := by rw [ex3]; exact z_add rfl (by decide : (2 : Int32).toInt = 2) (by omega) (by omega)
  refine va_sld hx hb hX hbl hbA hS (z_in rfl (by omega) (by omega)) dL_law_579 ?_
  refine lv_topi (fun y4 ey4 => ?_)
  refine lv_aload_n hx hb dL_law_580 rfl (lv_at hl 0 rfl) ?_
  refine lv_iload_n hx hb dL_law_581 rfl (lv_at hl 3 rfl) ?_
  refine lv_iconst (v := 3) hx hb dL_law_582 (by decide) ?_
  refine lv_iadd hx hb dL_law_583 ?_
  refine lv_topi (fun x5 ex5 => ?_)
  have tx5 : x5.toInt = i.toInt + 3 := by rw [ex5]; exact z_add rfl (by decide : (3 : Int32).toInt = 3) (by omega) (by omega)
  refine va_sld hx hb hX hbl hbA hS (z_in rfl (by omega) (by omega)) dL_law_584 ?_
  refine lv_topi (fun y6 ey6 => ?_)
  refine lv_aload_n hx hb dL_law_585 rfl (lv_at hl 0 rfl) ?_
  refine lv_iload_n hx hb dL_law_586 rfl (lv_at hl 3 rfl) ?_
  refine lv_iconst (v := 4) hx hb dL_law_587 (by decide) ?_
  refine lv_iadd hx hb dL_law_588 ?_
  refine lv_topi (fun x7 ex7 => ?_)
  have tx7 : x7.toInt = i.toInt + 4 := by rw [ex7]; exact z_add rfl (by decide : (4 : Int32).toInt = 4) (by omega) (by omega)
  refine va_sld hx hb hX hbl hbA hS (z_in rfl (by omega) (by omega)) dL_law_589 ?_
  refine lv_topi (fun y8 ey8 => ?_)
  have hjb := lwJ_b hJ
  have hPc := zP_l hP
  have hDc := zD_l hD
  have hFc := zw_free hDc hS hA
  obtain ⟨z10, z11, q12, q13, q14, hs15⟩ := a8_0 hI8
  refine va_calli (va_runV (As := [.int y2, .int y4, .int y6, .int y8]) (rest := []) ⟨hx, hb, hml, hown, hg⟩ (zs_i hI8 (k_X8_swap l g _ ad8 pe ct8 y2 y4 y6 y8 hI8)) (cwV 4 hg (z_gV mm_595 mm_596 mm_597 mm_108 mm_598) rfl rfl rfl (by decide +kernel) ⟨Nat.le_of_ble_eq_true rfl, Nat.le_of_ble_eq_true rfl⟩) ⟨(zA.pre [.ref (ad8 0), .int y2, .int y4, .int y6, .int y8] hPc hK hDc hN).1, va_recv hK hPc (ci := 8) (q0 := 0) rfl (zw_at (by omega) hs15), (zA.pre [.ref (ad8 0), .int y2, .int y4, .int y6, .int y8] hPc hK hDc hN).2⟩ rfl rfl hl.1 rfl (lv_room (Nat.le_of_ble_eq_true rfl)) dL_law_590 ⟨(show kq + 0 ≤ 600000 by omega), (show nq + 0 ≤ 7302250 by omega)⟩) hS (fun q _ h => hFc q h) hFc (fun r16 u17 t H1 locs ht hvm hr16 hB hz1 hk1 hS => ?_)
  obtain ⟨⟨ct18, hP1, hD1, hI8⟩, hzs⟩ := hB
  rw [ht] at hP1 hzs
  have hzl := hzs.eq hP1 hI8
  rw [← hzl] at hJ
  obtain ⟨hP, hD⟩ := z_two hP hD hk1 hFc hP1 hD1
  generalize H1 = H at hP hS ⊢
  refine W.widen (k := kq) (n := nq) (Nat.le_refl _) (Nat.le_refl _) ?_
  refine lv_pop hx hb dL_law_593 rfl ?_
  refine lv_aload_n hx hb dL_law_594 rfl (lv_at hl 2 rfl) ?_
  refine lv_aload_n hx hb dL_law_595 rfl (lv_at hl 0 rfl) ?_
  refine lv_iload_n hx hb dL_law_596 rfl (lv_at hl 3 rfl) ?_
  refine lv_iconst (v := 1) hx hb dL_law_597 (by decide) ?_
  refine lv_iadd hx hb dL_law_598 ?_
  refine lv_topi (fun x19 ex19 => ?_)
  obtain rfl : x1 = x19 := ex1.trans ex19.symm
  refine va_sld hx hb hX hbl hbA hS (z_in rfl (by omega) (by omega)) dL_law_599 ?_
  refine lv_topi (fun y20 ey20 => ?_)
  obtain rfl : y2 = y20 := ey2.trans ey20.symm
  refine lv_aload_n hx hb dL_law_600 rfl (lv_at hl 0 rfl) ?_
  refine lv_iload_n hx hb dL_law_601 rfl (lv_at hl 3 rfl) ?_
  refine lv_iconst (v := 2) hx hb dL_law_602 (by decide) ?_
  refine lv_iadd hx hb dL_law_603 ?_
  refine lv_topi (fun x21 ex21 => ?_)
  obtain rfl : x3 = x21 := ex3.trans ex21.symm
  refine va_sld hx hb hX hbl hbA hS (z_in rfl (by omega) (by omega)) dL_law_604 ?_
  refine lv_topi (fun y22 ey22 => ?_)
  obtain rfl : y4 = y22 := ey4.trans ey22.symm
  refine lv_aload_n hx hb dL_law_605 rfl (lv_at hl 0 rfl) ?_
  refine lv_iload_n hx hb dL_law_606 rfl (lv_at hl 3 rfl) ?_
  refine lv_iconst (v := 3) hx hb dL_law_607 (by decide) ?_
  refine lv_iadd hx hb dL_law_608 ?_
  refine lv_topi (fun x23 ex23 => ?_)
  obtain rfl : x5 = x23 := ex5.trans ex23.symm
  refine va_sld hx hb hX hbl hbA hS (z_in rfl (by omega) (by omega)) dL_law_609 ?_
  refine lv_topi (fun y24 ey24 => ?_)
  obtain rfl : y6 = y24 := ey6.trans ey24.symm
  refine lv_aload_n hx hb dL_law_610 rfl (lv_at hl 0 rfl) ?_
  refine lv_iload_n hx hb dL_law_611 rfl (lv_at hl 3 rfl) ?_
  refine lv_iconst (v := 4) hx hb dL_law_612 (by decide) ?_
  refine lv_iadd hx hb dL_law_613 ?_
  refine lv_topi (fun x25 ex25 => ?_)
  obtain rfl : x7 = x25 := ex7.trans ex25.symm
  refine va_sld hx hb hX hbl hbA hS (z_in rfl (by omega) (by omega)) dL_law_614 ?_
  refine lv_topi (fun y26 ey26 => ?_)
  obtain rfl : y8 = y26 := ey8.trans ey26.symm
  have hjb := lwJ_b hJ
  have hPs := z_swapP hP
  have hDs := z_swapD hD
  have hPc := zP_l hPs
  have hDc := zD_l hDs
  have hFc := zw_free hDc hS hA
  obtain ⟨z28, z29, z30, z31, z32, z33, z34, z35, z36, z37, z38, z39, z40, z41, z42, q43, q44, q45, q46, q47, q48, q49, q50, q51, q52, q53, q54, q55, q56, q57, q58, q59, q60, q61, q62, hs63⟩ := a9_0 hI9.1
  refine va_calli (va_runV (As := [.int y2, .int y4, .int y6, .int y8]) (rest := []) ⟨hx, hb, hml, hown, hg⟩ (k_X9_swap l g _ ad9 pe ct9 y2 y4 y6 y8 hI9) (cwV 4 hg (z_gV mm_1178 mm_1179 mm_1180 mm_117 mm_1181) rfl rfl rfl (by decide +kernel) ⟨Nat.le_of_ble_eq_true rfl, Nat.le_of_ble_eq_true rfl⟩) ⟨(zA.pre [.ref (ad9 0), .int y2, .int y4, .int y6, .int y8] hPc hK hDc hN).1, va_recv hK hPc (ci := 9) (q0 := 0) rfl (zw_at (by omega) hs63), (zA.pre [.ref (ad9 0), .int y2, .int y4, .int y6, .int y8] hPc hK hDc hN).2⟩ rfl rfl hl.1 rfl (lv_room (Nat.le_of_ble_eq_true rfl)) dL_law_615 ⟨(show kq + 0 ≤ 600000 by omega), (show nq + 0 ≤ 7302250 by omega)⟩) hS (fun q _ h => hFc q h) hFc (fun r64 u65 t H1 locs ht hvm hr64 hB hz1 hk1 hS => ?_)
  obtain ⟨ct66, hP1, hD1, hI9⟩ := hB
  rw [ht] at hP1
  obtain ⟨hP, hD⟩ := z_two hPs hDs hk1 hFc hP1 hD1
  have hP := z_swapP hP
  have hD := z_swapD hD
  generalize H1 = H at hP hS ⊢
  refine W.widen (k := kq) (n := nq) (Nat.le_refl _) (Nat.le_refl _) ?_
  refine lv_pop hx hb dL_law_618 rfl ?_
  refine lv_goto (tgt := 1531) hx hb dL_law_619 (by decide) ?_
  exact kk ad8 ad9 ct18 ct66 pe _ _ kq nq ls rfl rfl hP hD hS hI8 hI9 hJ (lv_sub hl [0, 1, 2, 3] rfl)

set_option maxHeartbeats 4000000 in
set_option maxRecDepth 100000 in
theorem op_show {p : Program} {e : Env} {s : State} {m : MethodId} {below : List Frame} {meth : Method} {c : Code} (l : Launch) {b L : Nat} {xs : Nat → Int32} (C0 : lw_At p s m meth c b L xs) (g : zG) (hK : zK g s) (hN : zN s) {A : Nat → Prop} (hA : ∀ q, s.heap.size ≤ q → A q) (hA' : ∀ q, A q → s.heap.size ≤ q) (x0 m0 : Nat) (i : Int32) (hi : 0 ≤ i.toInt ∧ i.toInt ≤ 3066) (hiL : i.toInt + 5 < (L : Int)) (kk : ∀ (ad8b ad9b : Nat → Nat) (ct8b ct9b : Nat → va_E) (peb : Int32) (H : Heap) (locs : List Loc) (kq nq : Nat) (ls : Array Slot), ad8b 0 = x0 → ad9b 0 = m0 → zP g (zw 126 ad8b ct8b ++ zw 32 ad9b ct9b) H → va_D A (zw 126 ad8b ct8b ++ zw 32 ad9b ct9b) → va_S A s.heap H locs → Inv8 g ad8b peb ct8b → IR g ad9b peb ct9b → lwJ kq nq (zlen (ct8b 20)) → lv_has ls 4 [(0, .ref b), (1, .ref x0), (2, .ref m0), (3, .int i)] → W p l e room_1 s m #[Value.ref b] below meth c H locs kq nq (lw_Z below #[Value.ref b] s) (F0 m 1531 ls [])) (ad8 ad9 : Nat → Nat) (ct8 ct9 : Nat → va_E) (pe : Int32) (H : Heap) (locs : List Loc) (kq nq : Nat) (ls : Array Slot) (hx0 : ad8 0 = x0) (hm0 : ad9 0 = m0) (hP : zP g (zw 126 ad8 ct8 ++ zw 32 ad9 ct9) H) (hD : va_D A (zw 126 ad8 ct8 ++ zw 32 ad9 ct9)) (hS : va_S A s.heap H locs) (hI8 : Inv8 g ad8 pe ct8) (hI9 : IR g ad9 pe ct9) (hJ : lwJ kq nq (zlen (ct8 20))) (hl : lv_has ls 4 [(0, .ref b), (1, .ref x0), (2, .ref m0), (3, .int i)]) : W p l e room_1 s m #[Value.ref b] below meth c H locs kq nq (lw_Z below #[Value.ref b] s) (F0 m 622 ls []) := by
  obtain ⟨hx, hb, hr, hml, hown, hts, hX, hbl, hlocks, hgv⟩ := C0
  have hg : ∀ w ∈ zGW, w.before #[Value.ref b] s = true := fun w h => hts w (List.mem_filter.mp h).1
  have hown : s.vm.findClass RL = some m.cls := hown
  have hbA : ¬ A b := fun h => absurd (hA' b h) (Nat.not_le.mpr hbl)
  subst hx0
  subst hm0
  refine lv_aload_n hx hb dL_law_622 rfl (lv_at hl 1 rfl) ?_
  refine lv_aload_n hx hb dL_law_623 rfl (lv_at hl 0 rfl) ?_
  refine lv_iload_n hx hb dL_law_624 rfl (lv_at hl 3 rfl) ?_
  refine lv_iconst (v := 1) hx hb dL_law_625 (by decide) ?_
  refine lv_iadd hx hb dL_law_626 ?_
  refine lv_topi (fun x1 ex1 => ?_)
  have tx1 : x1.toInt = i.toInt + 1 := by rw [ex1]; exact z_add rfl (by decide : (1 : Int32).toInt = 1) (by omega) (by omega)
  refine va_sld hx hb hX hbl hbA hS (z_in rfl (by omega) (by omega)) dL_law_627 ?_
  refine lv_topi (fun y2 ey2 => ?_)
  refine lv_aload_n hx hb dL_law_628 rfl (lv_at hl 0 rfl) ?_
  refine lv_iload_n hx hb dL_law_629 rfl (lv_at hl 3 rfl) ?_
  refine lv_iconst (v := 2) hx hb dL_law_630 (by decide) ?_
  refine lv_iadd hx hb dL_law_631 ?_
  refine lv_topi (fun x3 ex3 => ?_)
  have tx3 : x3.toInt = i.toInt + 2 := by rw [ex3]; exact z_add rfl (by decide : (2 : Int32).toInt = 2) (by omega) (by omega)
  refine va_sld hx hb hX hbl hbA hS (z_in rfl (by omega) (by omega)) dL_law_632 ?_
  refine lv_topi (fun y4 ey4 => ?_)
  refine lv_if_eq (tgt := 640) hx hb dL_law_633 (by decide) (fun c5 => ?_) (fun c5 => ?_)
  · skip
    have c5 : y4.toInt = 0 := (z_eq rfl (by decide : (0 : Int32).toInt = 0)).mp c5
    refine lv_iconst (v := 0) hx hb dL_law_640 (by decide) ?_
    have hjb := lwJ_b hJ
    have hPc := zP_l hP
    have hDc := zD_l hD
    have hFc := zw_free hDc hS hA
    obtain ⟨z7, z8, q9, q10, q11, hs12⟩ := a8_0 hI8
    refine va_calli (va_runV (As := [.int y2, .int 0]) (rest := []) ⟨hx, hb, hml, hown, hg⟩ (zs_i hI8 (k_X8_show l g _ ad8 pe ct8 y2 (0 : Int32) (by first | omega | decide) hI8)) (cwV 2 hg (z_gV mm_609 mm_610 mm_611 mm_108 mm_612) rfl rfl rfl (by decide +kernel) ⟨Nat.le_of_ble_eq_true rfl, Nat.le_of_ble_eq_true rfl⟩) ⟨(zA.pre [.ref (ad8 0), .int y2, .int 0] hPc hK hDc hN).1, va_recv hK hPc (ci := 8) (q0 := 0) rfl (zw_at (by omega) hs12), (zA.pre [.ref (ad8 0), .int y2, .int 0] hPc hK hDc hN).2⟩ rfl rfl hl.1 rfl (lv_room (Nat.le_of_ble_eq_true rfl)) dL_law_641 ⟨(show kq + 0 ≤ 600000 by omega), (show nq + 0 ≤ 7302250 by omega)⟩) hS (fun q _ h => hFc q h) hFc (fun r13 u14 t H1 locs ht hvm hr13 hB hz1 hk1 hS => ?_)
    obtain ⟨⟨ct15, hP1, hD1, hI8⟩, hzs⟩ := hB
    rw [ht] at hP1 hzs
    have hzl := hzs.eq hP1 hI8
    rw [← hzl] at hJ
    obtain ⟨hP, hD⟩ := z_two hP hD hk1 hFc hP1 hD1
    generalize H1 = H at hP hS ⊢
    refine W.widen (k := kq) (n := nq) (Nat.le_refl _) (Nat.le_refl _) ?_
    refine lv_pop hx hb dL_law_644 rfl ?_
    refine lv_aload_n hx hb dL_law_645 rfl (lv_at hl 2 rfl) ?_
    refine lv_aload_n hx hb dL_law_646 rfl (lv_at hl 0 rfl) ?_
    refine lv_iload_n hx hb dL_law_647 rfl (lv_at hl 3 rfl) ?_
    refine lv_iconst (v := 1) hx hb dL_law_648 (by decide) ?_
    refine lv_iadd hx hb dL_law_649 ?_
    refine lv_topi (fun x16 ex16 => ?_)
    obtain rfl : x1 = x16 := ex1.trans ex16.symm
    refine va_sld hx hb hX hbl hbA hS (z_in rfl (by omega) (by omega)) dL_law_650 ?_
    refine lv_topi (fun y17 ey17 => ?_)
    obtain rfl : y2 = y17 := ey2.trans ey17.symm
    refine lv_aload_n hx hb dL_law_651 rfl (lv_at hl 0 rfl) ?_
    refine lv_iload_n hx hb dL_law_652 rfl (lv_at hl 3 rfl) ?_
    refine lv_iconst (v := 2) hx hb dL_law_653 (by decide) ?_
    refine lv_iadd hx hb dL_law_654 ?_
    refine lv_topi (fun x18 ex18 => ?_)
    obtain rfl : x3 = x18 := ex3.trans ex18.symm
    refine va_sld hx hb hX hbl hbA hS (z_in rfl (by omega) (by omega)) dL_law_655 ?_
    refine lv_topi (fun y19 ey19 => ?_)
    obtain rfl : y4 = y19 := ey4.trans ey19.symm
    refine lv_if_eq (tgt := 663) hx hb dL_law_656 (by decide) (fun c20 => ?_) (fun c20 => ?_)
    · skip
      have c20 : y4.toInt = 0 := (z_eq rfl (by decide : (0 : Int32).toInt = 0)).mp c20
      refine lv_iconst (v := 0) hx hb dL_law_663 (by decide) ?_
      have hjb := lwJ_b hJ
      have hPs := z_swapP hP
      have hDs := z_swapD hD
      have hPc := zP_l hPs
      have hDc := zD_l hDs
      have hFc := zw_free hDc hS hA
      obtain ⟨z22, z23, z24, z25, z26, z27, z28, z29, z30, z31, z32, z33, z34, z35, z36, q37, q38, q39, q40, q41, q42, q43, q44, q45, q46, q47, q48, q49, q50, q51, q52, q53, q54, q55, q56, hs57⟩ := a9_0 hI9.1
      refine va_calli (va_runV (As := [.int y2, .int 0]) (rest := []) ⟨hx, hb, hml, hown, hg⟩ (k_X9_show l g _ ad9 pe ct9 y2 (0 : Int32) (by first | omega | decide) hI9) (cwV 2 hg (z_gV mm_1190 mm_1191 mm_1192 mm_117 mm_1193) rfl rfl rfl (by decide +kernel) ⟨Nat.le_of_ble_eq_true rfl, Nat.le_of_ble_eq_true rfl⟩) ⟨(zA.pre [.ref (ad9 0), .int y2, .int 0] hPc hK hDc hN).1, va_recv hK hPc (ci := 9) (q0 := 0) rfl (zw_at (by omega) hs57), (zA.pre [.ref (ad9 0), .int y2, .int 0] hPc hK hDc hN).2⟩ rfl rfl hl.1 rfl (lv_room (Nat.le_of_ble_eq_true rfl)) dL_law_664 ⟨(show kq + 0 ≤ 600000 by omega), (show nq + 0 ≤ 7302250 by omega)⟩) hS (fun q _ h => hFc q h) hFc (fun r58 u59 t H1 locs ht hvm hr58 hB hz1 hk1 hS => ?_)
      obtain ⟨ct60, hP1, hD1, hI9⟩ := hB
      rw [ht] at hP1
      obtain ⟨hP, hD⟩ := z_two hPs hDs hk1 hFc hP1 hD1
      have hP := z_swapP hP
      have hD := z_swapD hD
      generalize H1 = H at hP hS ⊢
      refine W.widen (k := kq) (n := nq) (Nat.le_refl _) (Nat.le_refl _) ?_
      refine lv_pop hx hb dL_law_667 rfl ?_
      refine lv_goto (tgt := 1531) hx hb dL_law_668 (by decide) ?_
      exact kk ad8 ad9 ct15 ct60 pe _ _ kq nq ls rfl rfl hP hD hS hI8 hI9 hJ (lv_sub hl [0, 1, 2, 3] rfl)
    · skip
      have c20 : ¬ (y4.toInt = 0) := fun q => c20 ((z_eq rfl (by decide : (0 : Int32).toInt = 0)).mpr q)
      refine lv_iconst (v := 1) hx hb dL_law_659 (by decide) ?_
      refine lv_goto (tgt := 664) hx hb dL_law_660 (by decide) ?_
      have hjb := lwJ_b hJ
      have hPs := z_swapP hP
      have hDs := z_swapD hD
      have hPc := zP_l hPs
      have hDc := zD_l hDs
      have hFc := zw_free hDc hS hA
      obtain ⟨z62, z63, z64, z65, z66, z67, z68, z69, z70, z71, z72, z73, z74, z75, z76, q77, q78, q79, q80, q81, q82, q83, q84, q85, q86, q87, q88, q89, q90, q91, q92, q93, q94, q95, q96, hs97⟩ := a9_0 hI9.1
      refine va_calli (va_runV (As := [.int y2, .int 1]) (rest := []) ⟨hx, hb, hml, hown, hg⟩ (k_X9_show l g _ ad9 pe ct9 y2 (1 : Int32) (by first | omega | decide) hI9) (cwV 2 hg (z_gV mm_1190 mm_1191 mm_1192 mm_117 mm_1193) rfl rfl rfl (by decide +kernel) ⟨Nat.le_of_ble_eq_true rfl, Nat.le_of_ble_eq_true rfl⟩) ⟨(zA.pre [.ref (ad9 0), .int y2, .int 1] hPc hK hDc hN).1, va_recv hK hPc (ci := 9) (q0 := 0) rfl (zw_at (by omega) hs97), (zA.pre [.ref (ad9 0), .int y2, .int 1] hPc hK hDc hN).2⟩ rfl rfl hl.1 rfl (lv_room (Nat.le_of_ble_eq_true rfl)) dL_law_664 ⟨(show kq + 0 ≤ 600000 by omega), (show nq + 0 ≤ 7302250 by omega)⟩) hS (fun q _ h => hFc q h) hFc (fun r98 u99 t H1 locs ht hvm hr98 hB hz1 hk1 hS => ?_)
      obtain ⟨ct100, hP1, hD1, hI9⟩ := hB
      rw [ht] at hP1
      obtain ⟨hP, hD⟩ := z_two hPs hDs hk1 hFc hP1 hD1
      have hP := z_swapP hP
      have hD := z_swapD hD
      generalize H1 = H at hP hS ⊢
      refine W.widen (k := kq) (n := nq) (Nat.le_refl _) (Nat.le_refl _) ?_
      refine lv_pop hx hb dL_law_667 rfl ?_
      refine lv_goto (tgt := 1531) hx hb dL_law_668 (by decide) ?_
      exact kk ad8 ad9 ct15 ct100 pe _ _ kq nq ls rfl rfl hP hD hS hI8 hI9 hJ (lv_sub hl [0, 1, 2, 3] rfl)
  · skip
    have c5 : ¬ (y4.toInt = 0) := fun q => c5 ((z_eq rfl (by decide : (0 : Int32).toInt = 0)).mpr q)
    refine lv_iconst (v := 1) hx hb dL_law_636 (by decide) ?_
    refine lv_goto (tgt := 641) hx hb dL_law_637 (by decide) ?_
    have hjb := lwJ_b hJ
    have hPc := zP_l hP
    have hDc := zD_l hD
    have hFc := zw_free hDc hS hA
    obtain ⟨z102, z103, q104, q105, q106, hs107⟩ := a8_0 hI8
    refine va_calli (va_runV (As := [.int y2, .int 1]) (rest := []) ⟨hx, hb, hml, hown, hg⟩ (zs_i hI8 (k_X8_show l g _ ad8 pe ct8 y2 (1 : Int32) (by first | omega | decide) hI8)) (cwV 2 hg (z_gV mm_609 mm_610 mm_611 mm_108 mm_612) rfl rfl rfl (by decide +kernel) ⟨Nat.le_of_ble_eq_true rfl, Nat.le_of_ble_eq_true rfl⟩) ⟨(zA.pre [.ref (ad8 0), .int y2, .int 1] hPc hK hDc hN).1, va_recv hK hPc (ci := 8) (q0 := 0) rfl (zw_at (by omega) hs107), (zA.pre [.ref (ad8 0), .int y2, .int 1] hPc hK hDc hN).2⟩ rfl rfl hl.1 rfl (lv_room (Nat.le_of_ble_eq_true rfl)) dL_law_641 ⟨(show kq + 0 ≤ 600000 by omega), (show nq + 0 ≤ 7302250 by omega)⟩) hS (fun q _ h => hFc q h) hFc (fun r108 u109 t H1 locs ht hvm hr108 hB hz1 hk1 hS => ?_)
    obtain ⟨⟨ct110, hP1, hD1, hI8⟩, hzs⟩ := hB
    rw [ht] at hP1 hzs
    have hzl := hzs.eq hP1 hI8
    rw [← hzl] at hJ
    obtain ⟨hP, hD⟩ := z_two hP hD hk1 hFc hP1 hD1
    generalize H1 = H at hP hS ⊢
    refine W.widen (k := kq) (n := nq) (Nat.le_refl _) (Nat.le_refl _) ?_
    refine lv_pop hx hb dL_law_644 rfl ?_
    refine lv_aload_n hx hb dL_law_645 rfl (lv_at hl 2 rfl) ?_
    refine lv_aload_n hx hb dL_law_646 rfl (lv_at hl 0 rfl) ?_
    refine lv_iload_n hx hb dL_law_647 rfl (lv_at hl 3 rfl) ?_
    refine lv_iconst (v := 1) hx hb dL_law_648 (by decide) ?_
    refine lv_iadd hx hb dL_law_649 ?_
    refine lv_topi (fun x111 ex111 => ?_)
    obtain rfl : x1 = x111 := ex1.trans ex111.symm
    refine va_sld hx hb hX hbl hbA hS (z_in rfl (by omega) (by omega)) dL_law_650 ?_
    refine lv_topi (fun y112 ey112 => ?_)
    obtain rfl : y2 = y112 := ey2.trans ey112.symm
    refine lv_aload_n hx hb dL_law_651 rfl (lv_at hl 0 rfl) ?_
    refine lv_iload_n hx hb dL_law_652 rfl (lv_at hl 3 rfl) ?_
    refine lv_iconst (v := 2) hx hb dL_law_653 (by decide) ?_
    refine lv_iadd hx hb dL_law_654 ?_
    refine lv_topi (fun x113 ex113 => ?_)
    obtain rfl : x3 = x113 := ex3.trans ex113.symm
    refine va_sld hx hb hX hbl hbA hS (z_in rfl (by omega) (by omega)) dL_law_655 ?_
    refine lv_topi (fun y114 ey114 => ?_)
    obtain rfl : y4 = y114 := ey4.trans ey114.symm
    refine lv_if_eq (tgt := 663) hx hb dL_law_656 (by decide) (fun c115 => ?_) (fun c115 => ?_)
    · skip
      have c115 : y4.toInt = 0 := (z_eq rfl (by decide : (0 : Int32).toInt = 0)).mp c115
      refine lv_iconst (v := 0) hx hb dL_law_663 (by decide) ?_
      have hjb := lwJ_b hJ
      have hPs := z_swapP hP
      have hDs := z_swapD hD
      have hPc := zP_l hPs
      have hDc := zD_l hDs
      have hFc := zw_free hDc hS hA
      obtain ⟨z117, z118, z119, z120, z121, z122, z123, z124, z125, z126, z127, z128, z129, z130, z131, q132, q133, q134, q135, q136, q137, q138, q139, q140, q141, q142, q143, q144, q145, q146, q147, q148, q149, q150, q151, hs152⟩ := a9_0 hI9.1
      refine va_calli (va_runV (As := [.int y2, .int 0]) (rest := []) ⟨hx, hb, hml, hown, hg⟩ (k_X9_show l g _ ad9 pe ct9 y2 (0 : Int32) (by first | omega | decide) hI9) (cwV 2 hg (z_gV mm_1190 mm_1191 mm_1192 mm_117 mm_1193) rfl rfl rfl (by decide +kernel) ⟨Nat.le_of_ble_eq_true rfl, Nat.le_of_ble_eq_true rfl⟩) ⟨(zA.pre [.ref (ad9 0), .int y2, .int 0] hPc hK hDc hN).1, va_recv hK hPc (ci := 9) (q0 := 0) rfl (zw_at (by omega) hs152), (zA.pre [.ref (ad9 0), .int y2, .int 0] hPc hK hDc hN).2⟩ rfl rfl hl.1 rfl (lv_room (Nat.le_of_ble_eq_true rfl)) dL_law_664 ⟨(show kq + 0 ≤ 600000 by omega), (show nq + 0 ≤ 7302250 by omega)⟩) hS (fun q _ h => hFc q h) hFc (fun r153 u154 t H1 locs ht hvm hr153 hB hz1 hk1 hS => ?_)
      obtain ⟨ct155, hP1, hD1, hI9⟩ := hB
      rw [ht] at hP1
      obtain ⟨hP, hD⟩ := z_two hPs hDs hk1 hFc hP1 hD1
      have hP := z_swapP hP
      have hD := z_swapD hD
      generalize H1 = H at hP hS ⊢
      refine W.widen (k := kq) (n := nq) (Nat.le_refl _) (Nat.le_refl _) ?_
      refine lv_pop hx hb dL_law_667 rfl ?_
      refine lv_goto (tgt := 1531) hx hb dL_law_668 (by decide) ?_
      exact kk ad8 ad9 ct110 ct155 pe _ _ kq nq ls rfl rfl hP hD hS hI8 hI9 hJ (lv_sub hl [0, 1, 2, 3] rfl)
    · skip
      have c115 : ¬ (y4.toInt = 0) := fun q => c115 ((z_eq rfl (by decide : (0 : Int32).toInt = 0)).mpr q)
      refine lv_iconst (v := 1) hx hb dL_law_659 (by decide) ?_
      refine lv_goto (tgt := 664) hx hb dL_law_660 (by decide) ?_
      have hjb := lwJ_b hJ
      have hPs := z_swapP hP
      have hDs := z_swapD hD
      have hPc := zP_l hPs
      have hDc := zD_l hDs
      have hFc := zw_free hDc hS hA
      obtain ⟨z157, z158, z159, z160, z161, z162, z163, z164, z165, z166, z167, z168, z169, z170, z171, q172, q173, q174, q175, q176, q177, q178, q179, q180, q181, q182, q183, q184, q185, q186, q187, q188, q189, q190, q191, hs192⟩ := a9_0 hI9.1
      refine va_calli (va_runV (As := [.int y2, .int 1]) (rest := []) ⟨hx, hb, hml, hown, hg⟩ (k_X9_show l g _ ad9 pe ct9 y2 (1 : Int32) (by first | omega | decide) hI9) (cwV 2 hg (z_gV mm_1190 mm_1191 mm_1192 mm_117 mm_1193) rfl rfl rfl (by decide +kernel) ⟨Nat.le_of_ble_eq_true rfl, Nat.le_of_ble_eq_true rfl⟩) ⟨(zA.pre [.ref (ad9 0), .int y2, .int 1] hPc hK hDc hN).1, va_recv hK hPc (ci := 9) (q0 := 0) rfl (zw_at (by omega) hs192), (zA.pre [.ref (ad9 0), .int y2, .int 1] hPc hK hDc hN).2⟩ rfl rfl hl.1 rfl (lv_room (Nat.le_of_ble_eq_true rfl)) dL_law_664 ⟨(show kq + 0 ≤ 600000 by omega), (show nq + 0 ≤ 7302250 by omega)⟩) hS (fun q _ h => hFc q h) hFc (fun r193 u194 t H1 locs ht hvm hr193 hB hz1 hk1 hS => ?_)
      obtain ⟨ct195, hP1, hD1, hI9⟩ := hB
      rw [ht] at hP1
      obtain ⟨hP, hD⟩ := z_two hPs hDs hk1 hFc hP1 hD1
      have hP := z_swapP hP
      have hD := z_swapD hD
      generalize H1 = H at hP hS ⊢
      refine W.widen (k := kq) (n := nq) (Nat.le_refl _) (Nat.le_refl _) ?_
      refine lv_pop hx hb dL_law_667 rfl ?_
      refine lv_goto (tgt := 1531) hx hb dL_law_668 (by decide) ?_
      exact kk ad8 ad9 ct110 ct195 pe _ _ kq nq ls rfl rfl hP hD hS hI8 hI9 hJ (lv_sub hl [0, 1, 2, 3] rfl)

set_option maxHeartbeats 4000000 in
set_option maxRecDepth 100000 in
theorem op_link {p : Program} {e : Env} {s : State} {m : MethodId} {below : List Frame} {meth : Method} {c : Code} (l : Launch) {b L : Nat} {xs : Nat → Int32} (C0 : lw_At p s m meth c b L xs) (g : zG) (hK : zK g s) (hN : zN s) {A : Nat → Prop} (hA : ∀ q, s.heap.size ≤ q → A q) (hA' : ∀ q, A q → s.heap.size ≤ q) (x0 m0 : Nat) (i : Int32) (hi : 0 ≤ i.toInt ∧ i.toInt ≤ 3066) (hiL : i.toInt + 5 < (L : Int)) (kk : ∀ (ad8b ad9b : Nat → Nat) (ct8b ct9b : Nat → va_E) (peb : Int32) (H : Heap) (locs : List Loc) (kq nq : Nat) (ls : Array Slot), ad8b 0 = x0 → ad9b 0 = m0 → zP g (zw 126 ad8b ct8b ++ zw 32 ad9b ct9b) H → va_D A (zw 126 ad8b ct8b ++ zw 32 ad9b ct9b) → va_S A s.heap H locs → Inv8 g ad8b peb ct8b → IR g ad9b peb ct9b → lwJ kq nq (zlen (ct8b 20)) → lv_has ls 4 [(0, .ref b), (1, .ref x0), (2, .ref m0), (3, .int i)] → W p l e room_1 s m #[Value.ref b] below meth c H locs kq nq (lw_Z below #[Value.ref b] s) (F0 m 1531 ls [])) (ad8 ad9 : Nat → Nat) (ct8 ct9 : Nat → va_E) (pe : Int32) (H : Heap) (locs : List Loc) (kq nq : Nat) (ls : Array Slot) (hx0 : ad8 0 = x0) (hm0 : ad9 0 = m0) (hP : zP g (zw 126 ad8 ct8 ++ zw 32 ad9 ct9) H) (hD : va_D A (zw 126 ad8 ct8 ++ zw 32 ad9 ct9)) (hS : va_S A s.heap H locs) (hI8 : Inv8 g ad8 pe ct8) (hI9 : IR g ad9 pe ct9) (hJ : lwJ kq nq (zlen (ct8 20))) (hl : lv_has ls 4 [(0, .ref b), (1, .ref x0), (2, .ref m0), (3, .int i)]) : W p l e room_1 s m #[Value.ref b] below meth c H locs kq nq (lw_Z below #[Value.ref b] s) (F0 m 671 ls []) := by
  obtain ⟨hx, hb, hr, hml, hown, hts, hX, hbl, hlocks, hgv⟩ := C0
  have hg : ∀ w ∈ zGW, w.before #[Value.ref b] s = true := fun w h => hts w (List.mem_filter.mp h).1
  have hown : s.vm.findClass RL = some m.cls := hown
  have hbA : ¬ A b := fun h => absurd (hA' b h) (Nat.not_le.mpr hbl)
  subst hx0
  subst hm0
  refine lv_aload_n hx hb dL_law_671 rfl (lv_at hl 1 rfl) ?_
  refine lv_aload_n hx hb dL_law_672 rfl (lv_at hl 0 rfl) ?_
  refine lv_iload_n hx hb dL_law_673 rfl (lv_at hl 3 rfl) ?_
  refine lv_iconst (v := 1) hx hb dL_law_674 (by decide) ?_
  refine lv_iadd hx hb dL_law_675 ?_
  refine lv_topi (fun x1 ex1 => ?_)
  have tx1 : x1.toInt = i.toInt + 1 := by rw [ex1]; exact z_add rfl (by decide : (1 : Int32).toInt = 1) (by omega) (by omega)
  refine va_sld hx hb hX hbl hbA hS (z_in rfl (by omega) (by omega)) dL_law_676 ?_
  refine lv_topi (fun y2 ey2 => ?_)
  refine lv_aload_n hx hb dL_law_677 rfl (lv_at hl 0 rfl) ?_
  refine lv_iload_n hx hb dL_law_678 rfl (lv_at hl 3 rfl) ?_
  refine lv_iconst (v := 2) hx hb dL_law_679 (by decide) ?_
  refine lv_iadd hx hb dL_law_680 ?_
  refine lv_topi (fun x3 ex3 => ?_)
  have tx3 : x3.toInt = i.toInt + 2 := by rw [ex3]; exact z_add rfl (by decide : (2 : Int32).toInt = 2) (by omega) (by omega)
  refine va_sld hx hb hX hbl hbA hS (z_in rfl (by omega) (by omega)) dL_law_681 ?_
  refine lv_topi (fun y4 ey4 => ?_)
  refine lv_aload_n hx hb dL_law_682 rfl (lv_at hl 0 rfl) ?_
  refine lv_iload_n hx hb dL_law_683 rfl (lv_at hl 3 rfl) ?_
  refine lv_iconst (v := 3) hx hb dL_law_684 (by decide) ?_
  refine lv_iadd hx hb dL_law_685 ?_
  refine lv_topi (fun x5 ex5 => ?_)
  have tx5 : x5.toInt = i.toInt + 3 := by rw [ex5]; exact z_add rfl (by decide : (3 : Int32).toInt = 3) (by omega) (by omega)
  refine va_sld hx hb hX hbl hbA hS (z_in rfl (by omega) (by omega)) dL_law_686 ?_
  refine lv_topi (fun y6 ey6 => ?_)
  refine lv_aload_n hx hb dL_law_687 rfl (lv_at hl 0 rfl) ?_
  refine lv_iload_n hx hb dL_law_688 rfl (lv_at hl 3 rfl) ?_
  refine lv_iconst (v := 4) hx hb dL_law_689 (by decide) ?_
  refine lv_iadd hx hb dL_law_690 ?_
  refine lv_topi (fun x7 ex7 => ?_)
  have tx7 : x7.toInt = i.toInt + 4 := by rw [ex7]; exact z_add rfl (by decide : (4 : Int32).toInt = 4) (by omega) (by omega)
  refine va_sld hx hb hX hbl hbA hS (z_in rfl (by omega) (by omega)) dL_law_691 ?_
  refine lv_topi (fun y8 ey8 => ?_)
  have hjb := lwJ_b hJ
  have hPc := zP_l hP
  have hDc := zD_l hD
  have hFc := zw_free hDc hS hA
  obtain ⟨z10, z11, q12, q13, q14, hs15⟩ := a8_0 hI8
  refine va_calli (va_runV (As := [.int y2, .int y4, .int y6, .int y8]) (rest := []) ⟨hx, hb, hml, hown, hg⟩ (zs_i hI8 (k_X8_link l g _ ad8 pe ct8 y2 y4 y6 y8 hI8)) (cwV 4 hg (z_gV mm_613 mm_614 mm_615 mm_108 mm_616) rfl rfl rfl (by decide +kernel) ⟨Nat.le_of_ble_eq_true rfl, Nat.le_of_ble_eq_true rfl⟩) ⟨(zA.pre [.ref (ad8 0), .int y2, .int y4, .int y6, .int y8] hPc hK hDc hN).1, va_recv hK hPc (ci := 8) (q0 := 0) rfl (zw_at (by omega) hs15), (zA.pre [.ref (ad8 0), .int y2, .int y4, .int y6, .int y8] hPc hK hDc hN).2⟩ rfl rfl hl.1 rfl (lv_room (Nat.le_of_ble_eq_true rfl)) dL_law_692 ⟨(show kq + 0 ≤ 600000 by omega), (show nq + 0 ≤ 7302250 by omega)⟩) hS (fun q _ h => hFc q h) hFc (fun r16 u17 t H1 locs ht hvm hr16 hB hz1 hk1 hS => ?_)
  obtain ⟨⟨ct18, hP1, hD1, hI8⟩, hzs⟩ := hB
  rw [ht] at hP1 hzs
  have hzl := hzs.eq hP1 hI8
  rw [← hzl] at hJ
  obtain ⟨hP, hD⟩ := z_two hP hD hk1 hFc hP1 hD1
  generalize H1 = H at hP hS ⊢
  refine W.widen (k := kq) (n := nq) (Nat.le_refl _) (Nat.le_refl _) ?_
  refine lv_pop hx hb dL_law_695 rfl ?_
  refine lv_aload_n hx hb dL_law_696 rfl (lv_at hl 2 rfl) ?_
  refine lv_aload_n hx hb dL_law_697 rfl (lv_at hl 0 rfl) ?_
  refine lv_iload_n hx hb dL_law_698 rfl (lv_at hl 3 rfl) ?_
  refine lv_iconst (v := 1) hx hb dL_law_699 (by decide) ?_
  refine lv_iadd hx hb dL_law_700 ?_
  refine lv_topi (fun x19 ex19 => ?_)
  obtain rfl : x1 = x19 := ex1.trans ex19.symm
  refine va_sld hx hb hX hbl hbA hS (z_in rfl (by omega) (by omega)) dL_law_701 ?_
  refine lv_topi (fun y20 ey20 => ?_)
  obtain rfl : y2 = y20 := ey2.trans ey20.symm
  refine lv_aload_n hx hb dL_law_702 rfl (lv_at hl 0 rfl) ?_
  refine lv_iload_n hx hb dL_law_703 rfl (lv_at hl 3 rfl) ?_
  refine lv_iconst (v := 2) hx hb dL_law_704 (by decide) ?_
  refine lv_iadd hx hb dL_law_705 ?_
  refine lv_topi (fun x21 ex21 => ?_)
  obtain rfl : x3 = x21 := ex3.trans ex21.symm
  refine va_sld hx hb hX hbl hbA hS (z_in rfl (by omega) (by omega)) dL_law_706 ?_
  refine lv_topi (fun y22 ey22 => ?_)
  obtain rfl : y4 = y22 := ey4.trans ey22.symm
  refine lv_aload_n hx hb dL_law_707 rfl (lv_at hl 0 rfl) ?_
  refine lv_iload_n hx hb dL_law_708 rfl (lv_at hl 3 rfl) ?_
  refine lv_iconst (v := 3) hx hb dL_law_709 (by decide) ?_
  refine lv_iadd hx hb dL_law_710 ?_
  refine lv_topi (fun x23 ex23 => ?_)
  obtain rfl : x5 = x23 := ex5.trans ex23.symm
  refine va_sld hx hb hX hbl hbA hS (z_in rfl (by omega) (by omega)) dL_law_711 ?_
  refine lv_topi (fun y24 ey24 => ?_)
  obtain rfl : y6 = y24 := ey6.trans ey24.symm
  refine lv_aload_n hx hb dL_law_712 rfl (lv_at hl 0 rfl) ?_
  refine lv_iload_n hx hb dL_law_713 rfl (lv_at hl 3 rfl) ?_
  refine lv_iconst (v := 4) hx hb dL_law_714 (by decide) ?_
  refine lv_iadd hx hb dL_law_715 ?_
  refine lv_topi (fun x25 ex25 => ?_)
  obtain rfl : x7 = x25 := ex7.trans ex25.symm
  refine va_sld hx hb hX hbl hbA hS (z_in rfl (by omega) (by omega)) dL_law_716 ?_
  refine lv_topi (fun y26 ey26 => ?_)
  obtain rfl : y8 = y26 := ey8.trans ey26.symm
  have hjb := lwJ_b hJ
  have hPs := z_swapP hP
  have hDs := z_swapD hD
  have hPc := zP_l hPs
  have hDc := zD_l hDs
  have hFc := zw_free hDc hS hA
  obtain ⟨z28, z29, z30, z31, z32, z33, z34, z35, z36, z37, z38, z39, z40, z41, z42, q43, q44, q45, q46, q47, q48, q49, q50, q51, q52, q53, q54, q55, q56, q57, q58, q59, q60, q61, q62, hs63⟩ := a9_0 hI9.1
  refine va_calli (va_runV (As := [.int y2, .int y4, .int y6, .int y8]) (rest := []) ⟨hx, hb, hml, hown, hg⟩ (k_X9_link l g _ ad9 pe ct9 y2 y4 y6 y8 hI9) (cwV 4 hg (z_gV mm_1194 mm_1195 mm_1196 mm_117 mm_1197) rfl rfl rfl (by decide +kernel) ⟨Nat.le_of_ble_eq_true rfl, Nat.le_of_ble_eq_true rfl⟩) ⟨(zA.pre [.ref (ad9 0), .int y2, .int y4, .int y6, .int y8] hPc hK hDc hN).1, va_recv hK hPc (ci := 9) (q0 := 0) rfl (zw_at (by omega) hs63), (zA.pre [.ref (ad9 0), .int y2, .int y4, .int y6, .int y8] hPc hK hDc hN).2⟩ rfl rfl hl.1 rfl (lv_room (Nat.le_of_ble_eq_true rfl)) dL_law_717 ⟨(show kq + 0 ≤ 600000 by omega), (show nq + 0 ≤ 7302250 by omega)⟩) hS (fun q _ h => hFc q h) hFc (fun r64 u65 t H1 locs ht hvm hr64 hB hz1 hk1 hS => ?_)
  obtain ⟨ct66, hP1, hD1, hI9⟩ := hB
  rw [ht] at hP1
  obtain ⟨hP, hD⟩ := z_two hPs hDs hk1 hFc hP1 hD1
  have hP := z_swapP hP
  have hD := z_swapD hD
  generalize H1 = H at hP hS ⊢
  refine W.widen (k := kq) (n := nq) (Nat.le_refl _) (Nat.le_refl _) ?_
  refine lv_pop hx hb dL_law_720 rfl ?_
  refine lv_goto (tgt := 1531) hx hb dL_law_721 (by decide) ?_
  exact kk ad8 ad9 ct18 ct66 pe _ _ kq nq ls rfl rfl hP hD hS hI8 hI9 hJ (lv_sub hl [0, 1, 2, 3] rfl)

set_option maxHeartbeats 4000000 in
set_option maxRecDepth 100000 in
theorem op_gossip {p : Program} {e : Env} {s : State} {m : MethodId} {below : List Frame} {meth : Method} {c : Code} (l : Launch) {b L : Nat} {xs : Nat → Int32} (C0 : lw_At p s m meth c b L xs) (g : zG) (hK : zK g s) (hN : zN s) {A : Nat → Prop} (hA : ∀ q, s.heap.size ≤ q → A q) (hA' : ∀ q, A q → s.heap.size ≤ q) (x0 m0 : Nat) (i : Int32) (hi : 0 ≤ i.toInt ∧ i.toInt ≤ 3066) (hiL : i.toInt + 5 < (L : Int)) (kk : ∀ (ad8b ad9b : Nat → Nat) (ct8b ct9b : Nat → va_E) (peb : Int32) (H : Heap) (locs : List Loc) (kq nq : Nat) (ls : Array Slot), ad8b 0 = x0 → ad9b 0 = m0 → zP g (zw 126 ad8b ct8b ++ zw 32 ad9b ct9b) H → va_D A (zw 126 ad8b ct8b ++ zw 32 ad9b ct9b) → va_S A s.heap H locs → Inv8 g ad8b peb ct8b → IR g ad9b peb ct9b → lwJ kq nq (zlen (ct8b 20)) → lv_has ls 4 [(0, .ref b), (1, .ref x0), (2, .ref m0), (3, .int i)] → W p l e room_1 s m #[Value.ref b] below meth c H locs kq nq (lw_Z below #[Value.ref b] s) (F0 m 1531 ls [])) (ad8 ad9 : Nat → Nat) (ct8 ct9 : Nat → va_E) (pe : Int32) (H : Heap) (locs : List Loc) (kq nq : Nat) (ls : Array Slot) (hx0 : ad8 0 = x0) (hm0 : ad9 0 = m0) (hP : zP g (zw 126 ad8 ct8 ++ zw 32 ad9 ct9) H) (hD : va_D A (zw 126 ad8 ct8 ++ zw 32 ad9 ct9)) (hS : va_S A s.heap H locs) (hI8 : Inv8 g ad8 pe ct8) (hI9 : IR g ad9 pe ct9) (hJ : lwJ kq nq (zlen (ct8 20))) (hl : lv_has ls 4 [(0, .ref b), (1, .ref x0), (2, .ref m0), (3, .int i)]) : W p l e room_1 s m #[Value.ref b] below meth c H locs kq nq (lw_Z below #[Value.ref b] s) (F0 m 724 ls []) := by
  obtain ⟨hx, hb, hr, hml, hown, hts, hX, hbl, hlocks, hgv⟩ := C0
  have hg : ∀ w ∈ zGW, w.before #[Value.ref b] s = true := fun w h => hts w (List.mem_filter.mp h).1
  have hown : s.vm.findClass RL = some m.cls := hown
  have hbA : ¬ A b := fun h => absurd (hA' b h) (Nat.not_le.mpr hbl)
  subst hx0
  subst hm0
  refine lv_aload_n hx hb dL_law_724 rfl (lv_at hl 1 rfl) ?_
  refine lv_aload_n hx hb dL_law_725 rfl (lv_at hl 0 rfl) ?_
  refine lv_iload_n hx hb dL_law_726 rfl (lv_at hl 3 rfl) ?_
  refine lv_iconst (v := 1) hx hb dL_law_727 (by decide) ?_
  refine lv_iadd hx hb dL_law_728 ?_
  refine lv_topi (fun x1 ex1 => ?_)
  have tx1 : x1.toInt = i.toInt + 1 := by rw [ex1]; exact z_add rfl (by decide : (1 : Int32).toInt = 1) (by omega) (by omega)
  refine va_sld hx hb hX hbl hbA hS (z_in rfl (by omega) (by omega)) dL_law_729 ?_
  refine lv_topi (fun y2 ey2 => ?_)
  refine lv_aload_n hx hb dL_law_730 rfl (lv_at hl 0 rfl) ?_
  refine lv_iload_n hx hb dL_law_731 rfl (lv_at hl 3 rfl) ?_
  refine lv_iconst (v := 2) hx hb dL_law_732 (by decide) ?_
  refine lv_iadd hx hb dL_law_733 ?_
  refine lv_topi (fun x3 ex3 => ?_)
  have tx3 : x3.toInt = i.toInt + 2 := by rw [ex3]; exact z_add rfl (by decide : (2 : Int32).toInt = 2) (by omega) (by omega)
  refine va_sld hx hb hX hbl hbA hS (z_in rfl (by omega) (by omega)) dL_law_734 ?_
  refine lv_topi (fun y4 ey4 => ?_)
  refine lv_aload_n hx hb dL_law_735 rfl (lv_at hl 0 rfl) ?_
  refine lv_iload_n hx hb dL_law_736 rfl (lv_at hl 3 rfl) ?_
  refine lv_iconst (v := 3) hx hb dL_law_737 (by decide) ?_
  refine lv_iadd hx hb dL_law_738 ?_
  refine lv_topi (fun x5 ex5 => ?_)
  have tx5 : x5.toInt = i.toInt + 3 := by rw [ex5]; exact z_add rfl (by decide : (3 : Int32).toInt = 3) (by omega) (by omega)
  refine va_sld hx hb hX hbl hbA hS (z_in rfl (by omega) (by omega)) dL_law_739 ?_
  refine lv_topi (fun y6 ey6 => ?_)
  refine lv_aload_n hx hb dL_law_740 rfl (lv_at hl 0 rfl) ?_
  refine lv_iload_n hx hb dL_law_741 rfl (lv_at hl 3 rfl) ?_
  refine lv_iconst (v := 4) hx hb dL_law_742 (by decide) ?_
  refine lv_iadd hx hb dL_law_743 ?_
  refine lv_topi (fun x7 ex7 => ?_)
  have tx7 : x7.toInt = i.toInt + 4 := by rw [ex7]; exact z_add rfl (by decide : (4 : Int32).toInt = 4) (by omega) (by omega)
  refine va_sld hx hb hX hbl hbA hS (z_in rfl (by omega) (by omega)) dL_law_744 ?_
  refine lv_topi (fun y8 ey8 => ?_)
  have hjb := lwJ_b hJ
  have hPc := zP_l hP
  have hDc := zD_l hD
  have hFc := zw_free hDc hS hA
  obtain ⟨z10, z11, q12, q13, q14, hs15⟩ := a8_0 hI8
  refine va_calli (va_runV (As := [.int y2, .int y4, .int y6, .int y8]) (rest := []) ⟨hx, hb, hml, hown, hg⟩ (zs_i hI8 (k_X8_gossip l g _ ad8 pe ct8 y2 y4 y6 y8 hI8)) (cwV 4 hg (z_gV mm_624 mm_625 mm_626 mm_108 mm_627) rfl rfl rfl (by decide +kernel) ⟨Nat.le_of_ble_eq_true rfl, Nat.le_of_ble_eq_true rfl⟩) ⟨(zA.pre [.ref (ad8 0), .int y2, .int y4, .int y6, .int y8] hPc hK hDc hN).1, va_recv hK hPc (ci := 8) (q0 := 0) rfl (zw_at (by omega) hs15), (zA.pre [.ref (ad8 0), .int y2, .int y4, .int y6, .int y8] hPc hK hDc hN).2⟩ rfl rfl hl.1 rfl (lv_room (Nat.le_of_ble_eq_true rfl)) dL_law_745 ⟨(show kq + 0 ≤ 600000 by omega), (show nq + 0 ≤ 7302250 by omega)⟩) hS (fun q _ h => hFc q h) hFc (fun r16 u17 t H1 locs ht hvm hr16 hB hz1 hk1 hS => ?_)
  obtain ⟨⟨ct18, hP1, hD1, hI8⟩, hzs⟩ := hB
  rw [ht] at hP1 hzs
  have hzl := hzs.eq hP1 hI8
  rw [← hzl] at hJ
  obtain ⟨hP, hD⟩ := z_two hP hD hk1 hFc hP1 hD1
  generalize H1 = H at hP hS ⊢
  refine W.widen (k := kq) (n := nq) (Nat.le_refl _) (Nat.le_refl _) ?_
  refine lv_pop hx hb dL_law_748 rfl ?_
  refine lv_aload_n hx hb dL_law_749 rfl (lv_at hl 2 rfl) ?_
  refine lv_aload_n hx hb dL_law_750 rfl (lv_at hl 0 rfl) ?_
  refine lv_iload_n hx hb dL_law_751 rfl (lv_at hl 3 rfl) ?_
  refine lv_iconst (v := 1) hx hb dL_law_752 (by decide) ?_
  refine lv_iadd hx hb dL_law_753 ?_
  refine lv_topi (fun x19 ex19 => ?_)
  obtain rfl : x1 = x19 := ex1.trans ex19.symm
  refine va_sld hx hb hX hbl hbA hS (z_in rfl (by omega) (by omega)) dL_law_754 ?_
  refine lv_topi (fun y20 ey20 => ?_)
  obtain rfl : y2 = y20 := ey2.trans ey20.symm
  refine lv_aload_n hx hb dL_law_755 rfl (lv_at hl 0 rfl) ?_
  refine lv_iload_n hx hb dL_law_756 rfl (lv_at hl 3 rfl) ?_
  refine lv_iconst (v := 2) hx hb dL_law_757 (by decide) ?_
  refine lv_iadd hx hb dL_law_758 ?_
  refine lv_topi (fun x21 ex21 => ?_)
  obtain rfl : x3 = x21 := ex3.trans ex21.symm
  refine va_sld hx hb hX hbl hbA hS (z_in rfl (by omega) (by omega)) dL_law_759 ?_
  refine lv_topi (fun y22 ey22 => ?_)
  obtain rfl : y4 = y22 := ey4.trans ey22.symm
  refine lv_aload_n hx hb dL_law_760 rfl (lv_at hl 0 rfl) ?_
  refine lv_iload_n hx hb dL_law_761 rfl (lv_at hl 3 rfl) ?_
  refine lv_iconst (v := 3) hx hb dL_law_762 (by decide) ?_
  refine lv_iadd hx hb dL_law_763 ?_
  refine lv_topi (fun x23 ex23 => ?_)
  obtain rfl : x5 = x23 := ex5.trans ex23.symm
  refine va_sld hx hb hX hbl hbA hS (z_in rfl (by omega) (by omega)) dL_law_764 ?_
  refine lv_topi (fun y24 ey24 => ?_)
  obtain rfl : y6 = y24 := ey6.trans ey24.symm
  refine lv_aload_n hx hb dL_law_765 rfl (lv_at hl 0 rfl) ?_
  refine lv_iload_n hx hb dL_law_766 rfl (lv_at hl 3 rfl) ?_
  refine lv_iconst (v := 4) hx hb dL_law_767 (by decide) ?_
  refine lv_iadd hx hb dL_law_768 ?_
  refine lv_topi (fun x25 ex25 => ?_)
  obtain rfl : x7 = x25 := ex7.trans ex25.symm
  refine va_sld hx hb hX hbl hbA hS (z_in rfl (by omega) (by omega)) dL_law_769 ?_
  refine lv_topi (fun y26 ey26 => ?_)
  obtain rfl : y8 = y26 := ey8.trans ey26.symm
  have hjb := lwJ_b hJ
  have hPs := z_swapP hP
  have hDs := z_swapD hD
  have hPc := zP_l hPs
  have hDc := zD_l hDs
  have hFc := zw_free hDc hS hA
  obtain ⟨z28, z29, z30, z31, z32, z33, z34, z35, z36, z37, z38, z39, z40, z41, z42, q43, q44, q45, q46, q47, q48, q49, q50, q51, q52, q53, q54, q55, q56, q57, q58, q59, q60, q61, q62, hs63⟩ := a9_0 hI9.1
  refine va_calli (va_runV (As := [.int y2, .int y4, .int y6, .int y8]) (rest := []) ⟨hx, hb, hml, hown, hg⟩ (k_X9_gossip l g _ ad9 pe ct9 y2 y4 y6 y8 hI9) (cwV 4 hg (z_gV mm_1206 mm_1207 mm_1208 mm_117 mm_1209) rfl rfl rfl (by decide +kernel) ⟨Nat.le_of_ble_eq_true rfl, Nat.le_of_ble_eq_true rfl⟩) ⟨(zA.pre [.ref (ad9 0), .int y2, .int y4, .int y6, .int y8] hPc hK hDc hN).1, va_recv hK hPc (ci := 9) (q0 := 0) rfl (zw_at (by omega) hs63), (zA.pre [.ref (ad9 0), .int y2, .int y4, .int y6, .int y8] hPc hK hDc hN).2⟩ rfl rfl hl.1 rfl (lv_room (Nat.le_of_ble_eq_true rfl)) dL_law_770 ⟨(show kq + 0 ≤ 600000 by omega), (show nq + 0 ≤ 7302250 by omega)⟩) hS (fun q _ h => hFc q h) hFc (fun r64 u65 t H1 locs ht hvm hr64 hB hz1 hk1 hS => ?_)
  obtain ⟨ct66, hP1, hD1, hI9⟩ := hB
  rw [ht] at hP1
  obtain ⟨hP, hD⟩ := z_two hPs hDs hk1 hFc hP1 hD1
  have hP := z_swapP hP
  have hD := z_swapD hD
  generalize H1 = H at hP hS ⊢
  refine W.widen (k := kq) (n := nq) (Nat.le_refl _) (Nat.le_refl _) ?_
  refine lv_pop hx hb dL_law_773 rfl ?_
  refine lv_goto (tgt := 1531) hx hb dL_law_774 (by decide) ?_
  exact kk ad8 ad9 ct18 ct66 pe _ _ kq nq ls rfl rfl hP hD hS hI8 hI9 hJ (lv_sub hl [0, 1, 2, 3] rfl)

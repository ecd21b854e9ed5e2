set_option maxHeartbeats 4000000 in
set_option maxRecDepth 100000 in
theorem op_gossip {p : Program} {e : Env} {s : State} {m : MethodId} {below : List Frame} {meth : Method} {c : Code} (l : Launch) {b L : Nat} {xs : Nat → Int32} (C0 : lw_At p s m meth c b L xs) (g : zG) (hK : zK g s) (hN : zN s) {A : Nat → Prop} (hA : ∀ q, s.heap.size ≤ q → A q) (hA' : ∀ q, A q → s.heap.size ≤ q) (x0 m0 : Nat) (i : Int32) (hi : 0 ≤ i.toInt ∧ i.toInt ≤ 3066) (hiL : i.toInt + 5 < (L : Int)) (kk : ∀ (ad8b ad9b : Nat → Nat) (ct8b ct9b : Nat → va_E) (peb meb : Int32) (H : Heap) (locs : List Loc) (kq nq : Nat) (ls : Array Slot), ad8b 0 = x0 → ad9b 0 = m0 → zP g (zw 126 ad8b ct8b ++ zw 32 ad9b ct9b) H → va_D A (zw 126 ad8b ct8b ++ zw 32 ad9b ct9b) → va_S A s.heap H locs → Inv8 g ad8b peb ct8b → IR g ad9b meb ct9b → tieT ad8b ad9b → lwJ kq nq (zlen (ct8b 20)) → lv_has ls 4 [(0, .ref b), (1, .ref x0), (2, .ref m0), (3, .int i)] → W p l e room_1 s m #[Value.ref b] below meth c H locs kq nq (lw_Z below #[Value.ref b] s) (F0 m 1531 ls [])) (ad8 ad9 : Nat → Nat) (ct8 ct9 : Nat → va_E) (pe me : Int32) (H : Heap) (locs : List Loc) (kq nq : Nat) (ls : Array Slot) (hx0 : ad8 0 = x0) (hm0 : ad9 0 = m0) (hP : zP g (zw 126 ad8 ct8 ++ zw 32 ad9 ct9) H) (hD : va_D A (zw 126 ad8 ct8 ++ zw 32 ad9 ct9)) (hS : va_S A s.heap H locs) (hI8 : Inv8 g ad8 pe ct8) (hI9 : IR g ad9 me ct9) (hT : tieT ad8 ad9) (hJ : lwJ kq nq (zlen (ct8 20))) (hl : lv_has ls 4 [(0, .ref b), (1, .ref x0), (2, .ref m0), (3, .int i)]) : W p l e room_1 s m #[Value.ref b] below meth c H locs kq nq (lw_Z below #[Value.ref b] s) (F0 m 724 ls []) := by
  obtain ⟨hx, hb, hr, hml, hown, hts, hX, hbl, hlocks, hgv⟩ := C0
  have hg : ∀ w ∈ zGW, w.before #[Value.ref b] s = true := fun w h => hts w (List.mem_filter.mp h).1
  have hown : s.vm.findClass RL = some m.cls := hown
  have hbA : ¬ A b := fun h => absurd (hA' b h) (Nat.not_le.mpr hbl)
  subst hx0
  subst hm0
  refine lv_aload_n hx hb dL_law_724 rfl (lv_at hl 1 rfl) ?_
  refine lv_aload_n hx hb dL_law_725 rfl (lv_at hl 0 rfl) ?_
  refine lv_iload_n hx hb dL_law_726 rfl (lv_at hl 3 rfl) ?_
  refine lv_iconst (v := 1) hx hb dL_law_727 (by decide) ?_
  refine lv_iadd hx hb dL_law_728 ?_
  refine lv_topi (fun x1 ex1 => ?_)
  have tx1 : x1.toInt = i.toInt + 1 := by rw [ex1]; exact z_add rfl (by decide : (1 : Int32).toInt = 1) (by omega) (by omega)
  refine va_sld hx hb hX hbl hbA hS (z_in rfl (by omega) (by omega)) dL_law_729 ?_
  refine lv_topi (fun y2 ey2 => ?_)
  refine lv_aload_n hx hb dL_law_730 rfl (lv_at hl 0 rfl) ?_
  refine lv_iload_n hx hb dL_law_731 rfl (lv_at hl 3 rfl) ?_
  refine lv_iconst (v := 2) hx hb dL_law_732 (by decide) ?_
  refine lv_iadd hx hb dL_law_733 ?_
  refine lv_topi (fun x3 ex3 => ?_)
  have tx3 : x3.toInt = i.toInt + 2 := by rw [ex3]; exact z_add rfl (by decide : (2 : Int32).toInt = 2) (by omega) (by omega)
  refine va_sld hx hb hX hbl hbA hS (z_in rfl (by omega) (by omega)) dL_law_734 ?_
  refine lv_topi (fun y4 ey4 => ?_)
  refine lv_aload_n hx hb dL_law_735 rfl (lv_at hl 0 rfl) ?_
  refine lv_iload_n hx hb dL_law_736 rfl (lv_at hl 3 rfl) ?_
  refine lv_iconst (v := 3) hx hb dL_law_737 (by decide) ?_
  refine lv_iadd hx hb dL_law_738 ?_
  refine lv_topi (fun x5 ex5 => ?_)
  have tx5 : x5.toInt = i.toInt + 3 := by rw [ex5]; exact z_add rfl (by decide : (3 : Int32).toInt = 3) (by omega) (by omega)
  refine va_sld hx hb hX hbl hbA hS (z_in rfl (by omega) (by omega)) dL_law_739 ?_
  refine lv_topi (fun y6 ey6 => ?_)
  refine lv_aload_n hx hb dL_law_740 rfl (lv_at hl 0 rfl) ?_
  refine lv_iload_n hx hb dL_law_741 rfl (lv_at hl 3 rfl) ?_
  refine lv_iconst (v := 4) hx hb dL_law_742 (by decide) ?_
  refine lv_iadd hx hb dL_law_743 ?_
  refine lv_topi (fun x7 ex7 => ?_)
  have tx7 : x7.toInt = i.toInt + 4 := by rw [ex7]; exact z_add rfl (by decide : (4 : Int32).toInt = 4) (by omega) (by omega)
  refine va_sld hx hb hX hbl hbA hS (z_in rfl (by omega) (by omega)) dL_law_744 ?_
  refine lv_topi (fun y8 ey8 => ?_)
  have hjb := lwJ_b hJ
  have hPc := zP_l hP
  have hDc := zD_l hD
  have hFc := zw_free hDc hS hA
  obtain ⟨z10, z11, q12, q13, q14, hs15⟩ := a8_0 hI8
  refine va_calli (va_runV (As := [.int y2, .int y4, .int y6, .int y8]) (rest := []) ⟨hx, hb, hml, hown, hg⟩ (zs_i hI8 (k_X8_gossip l g _ ad8 pe ct8 y2 y4 y6 y8 hI8)) (cwV 4 hg (z_gV mm_624 mm_625 mm_626 mm_108 mm_627) rfl rfl rfl (by decide +kernel) ⟨Nat.le_of_ble_eq_true rfl, Nat.le_of_ble_eq_true rfl⟩) ⟨(zA.pre [.ref (ad8 0), .int y2, .int y4, .int y6, .int y8] hPc hK hDc hN).1, va_recv hK hPc (ci := 8) (q0 := 0) rfl (zw_at (by omega) hs15), (zA.pre [.ref (ad8 0), .int y2, .int y4, .int y6, .int y8] hPc hK hDc hN).2⟩ rfl rfl hl.1 rfl (lv_room (Nat.le_of_ble_eq_true rfl)) dL_law_745 ⟨(show kq + 0 ≤ 600000 by omega), (show nq + 0 ≤ 7302250 by omega)⟩) hS (fun q _ h => hFc q h) hFc (fun r16 u17 t H1 locs ht hvm hr16 hB hz1 hk1 hS => ?_)
  obtain ⟨⟨ct18, hP1, hD1, hI8⟩, hzs⟩ := hB
  rw [ht] at hP1 hzs
  have hzl := hzs.eq hP1 hI8
  rw [← hzl] at hJ
  obtain ⟨hP, hD⟩ := z_two hP hD hk1 hFc hP1 hD1
  generalize H1 = H at hP hS ⊢
  refine W.widen (k := kq) (n := nq) (Nat.le_refl _) (Nat.le_refl _) ?_
  refine lv_pop hx hb dL_law_748 rfl ?_
  refine lv_aload_n hx hb dL_law_749 rfl (lv_at hl 2 rfl) ?_
  refine lv_aload_n hx hb dL_law_750 rfl (lv_at hl 0 rfl) ?_
  refine lv_iload_n hx hb dL_law_751 rfl (lv_at hl 3 rfl) ?_
  refine lv_iconst (v := 1) hx hb dL_law_752 (by decide) ?_
  refine lv_iadd hx hb dL_law_753 ?_
  refine lv_topi (fun x19 ex19 => ?_)
  obtain rfl : x1 = x19 := ex1.trans ex19.symm
  refine va_sld hx hb hX hbl hbA hS (z_in rfl (by omega) (by omega)) dL_law_754 ?_
  refine lv_topi (fun y20 ey20 => ?_)
  obtain rfl : y2 = y20 := ey2.trans ey20.symm
  refine lv_aload_n hx hb dL_law_755 rfl (lv_at hl 0 rfl) ?_
  refine lv_iload_n hx hb dL_law_756 rfl (lv_at hl 3 rfl) ?_
  refine lv_iconst (v := 2) hx hb dL_law_757 (by decide) ?_
  refine lv_iadd hx hb dL_law_758 ?_
  refine lv_topi (fun x21 ex21 => ?_)
  obtain rfl : x3 = x21 := ex3.trans ex21.symm
  refine va_sld hx hb hX hbl hbA hS (z_in rfl (by omega) (by omega)) dL_law_759 ?_
  refine lv_topi (fun y22 ey22 => ?_)
  obtain rfl : y4 = y22 := ey4.trans ey22.symm
  refine lv_aload_n hx hb dL_law_760 rfl (lv_at hl 0 rfl) ?_
  refine lv_iload_n hx hb dL_law_761 rfl (lv_at hl 3 rfl) ?_
  refine lv_iconst (v := 3) hx hb dL_law_762 (by decide) ?_
  refine lv_iadd hx hb dL_law_763 ?_
  refine lv_topi (fun x23 ex23 => ?_)
  obtain rfl : x5 = x23 := ex5.trans ex23.symm
  refine va_sld hx hb hX hbl hbA hS (z_in rfl (by omega) (by omega)) dL_law_764 ?_
  refine lv_topi (fun y24 ey24 => ?_)
  obtain rfl : y6 = y24 := ey6.trans ey24.symm
  refine lv_aload_n hx hb dL_law_765 rfl (lv_at hl 0 rfl) ?_
  refine lv_iload_n hx hb dL_law_766 rfl (lv_at hl 3 rfl) ?_
  refine lv_iconst (v := 4) hx hb dL_law_767 (by decide) ?_
  refine lv_iadd hx hb dL_law_768 ?_
  refine lv_topi (fun x25 ex25 => ?_)
  obtain rfl : x7 = x25 := ex7.trans ex25.symm
  refine va_sld hx hb hX hbl hbA hS (z_in rfl (by omega) (by omega)) dL_law_769 ?_
  refine lv_topi (fun y26 ey26 => ?_)
  obtain rfl : y8 = y26 := ey8.trans ey26.symm
  have hjb := lwJ_b hJ
  have hPs := z_swapP hP
  have hDs := z_swapD hD
  have hPc := zP_l hPs
  have hDc := zD_l hDs
  have hFc := zw_free hDc hS hA
  obtain ⟨z28, z29, z30, z31, z32, z33, z34, z35, z36, z37, z38, z39, z40, z41, z42, q43, q44, q45, q46, q47, q48, q49, q50, q51, q52, q53, q54, q55, q56, q57, q58, q59, q60, q61, q62, hs63⟩ := a9_0 hI9.1
  refine va_calli (va_runV (As := [.int y2, .int y4, .int y6, .int y8]) (rest := []) ⟨hx, hb, hml, hown, hg⟩ (k_X9_gossip l g _ ad9 me ct9 y2 y4 y6 y8 hI9) (cwV 4 hg (z_gV mm_1206 mm_1207 mm_1208 mm_117 mm_1209) rfl rfl rfl (by decide +kernel) ⟨Nat.le_of_ble_eq_true rfl, Nat.le_of_ble_eq_true rfl⟩) ⟨(zA.pre [.ref (ad9 0), .int y2, .int y4, .int y6, .int y8] hPc hK hDc hN).1, va_recv hK hPc (ci := 9) (q0 := 0) rfl (zw_at (by omega) hs63), (zA.pre [.ref (ad9 0), .int y2, .int y4, .int y6, .int y8] hPc hK hDc hN).2⟩ rfl rfl hl.1 rfl (lv_room (Nat.le_of_ble_eq_true rfl)) dL_law_770 ⟨(show kq + 0 ≤ 600000 by omega), (show nq + 0 ≤ 7302250 by omega)⟩) hS (fun q _ h => hFc q h) hFc (fun r64 u65 t H1 locs ht hvm hr64 hB hz1 hk1 hS => ?_)
  obtain ⟨ct66, hP1, hD1, hI9⟩ := hB
  rw [ht] at hP1
  obtain ⟨hP, hD⟩ := z_two hPs hDs hk1 hFc hP1 hD1
  have hP := z_swapP hP
  have hD := z_swapD hD
  generalize H1 = H at hP hS ⊢
  refine W.widen (k := kq) (n := nq) (Nat.le_refl _) (Nat.le_refl _) ?_
  refine lv_pop hx hb dL_law_773 rfl ?_
  refine lv_goto (tgt := 1531) hx hb dL_law_774 (by decide) ?_
  exact kk ad8 ad9 ct18 ct66 pe me _ _ kq nq ls rfl rfl hP hD hS hI8 hI9 hT hJ (lv_sub hl [0, 1, 2, 3] rfl)

set_option maxHeartbeats 4000000 in
set_option maxRecDepth 100000 in
theorem op_line {p : Program} {e : Env} {s : State} {m : MethodId} {below : List Frame} {meth : Method} {c : Code} (l : Launch) {b L : Nat} {xs : Nat → Int32} (C0 : lw_At p s m meth c b L xs) (g : zG) (hK : zK g s) (hN : zN s) {A : Nat → Prop} (hA : ∀ q, s.heap.size ≤ q → A q) (hA' : ∀ q, A q → s.heap.size ≤ q) (x0 m0 : Nat) (i : Int32) (hi : 0 ≤ i.toInt ∧ i.toInt ≤ 3066) (hiL : i.toInt + 5 < (L : Int)) (kk : ∀ (ad8b ad9b : Nat → Nat) (ct8b ct9b : Nat → va_E) (peb meb : Int32) (H : Heap) (locs : List Loc) (kq nq : Nat) (ls : Array Slot), ad8b 0 = x0 → ad9b 0 = m0 → zP g (zw 126 ad8b ct8b ++ zw 32 ad9b ct9b) H → va_D A (zw 126 ad8b ct8b ++ zw 32 ad9b ct9b) → va_S A s.heap H locs → Inv8 g ad8b peb ct8b → IR g ad9b meb ct9b → tieT ad8b ad9b → lwJ kq nq (zlen (ct8b 20)) → lv_has ls 4 [(0, .ref b), (1, .ref x0), (2, .ref m0), (3, .int i)] → W p l e room_1 s m #[Value.ref b] below meth c H locs kq nq (lw_Z below #[Value.ref b] s) (F0 m 1531 ls [])) (ad8 ad9 : Nat → Nat) (ct8 ct9 : Nat → va_E) (pe me : Int32) (H : Heap) (locs : List Loc) (kq nq : Nat) (ls : Array Slot) (hx0 : ad8 0 = x0) (hm0 : ad9 0 = m0) (hP : zP g (zw 126 ad8 ct8 ++ zw 32 ad9 ct9) H) (hD : va_D A (zw 126 ad8 ct8 ++ zw 32 ad9 ct9)) (hS : va_S A s.heap H locs) (hI8 : Inv8 g ad8 pe ct8) (hI9 : IR g ad9 me ct9) (hT : tieT ad8 ad9) (hJ : lwJ kq nq (zlen (ct8 20))) (hl : lv_has ls 4 [(0, .ref b), (1, .ref x0), (2, .ref m0), (3, .int i)]) : W p l e room_1 s m #[Value.ref b] below meth c H locs kq nq (lw_Z below #[Value.ref b] s) (F0 m 777 ls []) := by
  obtain ⟨hx, hb, hr, hml, hown, hts, hX, hbl, hlocks, hgv⟩ := C0
  have hg : ∀ w ∈ zGW, w.before #[Value.ref b] s = true := fun w h => hts w (List.mem_filter.mp h).1
  have hown : s.vm.findClass RL = some m.cls := hown
  have hbA : ¬ A b := fun h => absurd (hA' b h) (Nat.not_le.mpr hbl)
  subst hx0
  subst hm0
  refine lv_aload_n hx hb dL_law_777 rfl (lv_at hl 1 rfl) ?_
  refine lv_aload_n hx hb dL_law_778 rfl (lv_at hl 0 rfl) ?_
  refine lv_iload_n hx hb dL_law_779 rfl (lv_at hl 3 rfl) ?_
  refine lv_iconst (v := 1) hx hb dL_law_780 (by decide) ?_
  refine lv_iadd hx hb dL_law_781 ?_
  refine lv_topi (fun x1 ex1 => ?_)
  have tx1 : x1.toInt = i.toInt + 1 := by rw [ex1]; exact z_add rfl (by decide : (1 : Int32).toInt = 1) (by omega) (by omega)
  refine va_sld hx hb hX hbl hbA hS (z_in rfl (by omega) (by omega)) dL_law_782 ?_
  refine lv_topi (fun y2 ey2 => ?_)
  refine lv_aload_n hx hb dL_law_783 rfl (lv_at hl 0 rfl) ?_
  refine lv_iload_n hx hb dL_law_784 rfl (lv_at hl 3 rfl) ?_
  refine lv_iconst (v := 2) hx hb dL_law_785 (by decide) ?_
  refine lv_iadd hx hb dL_law_786 ?_
  refine lv_topi (fun x3 ex3 => ?_)
  have tx3 : x3.toInt = i.toInt + 2 := by rw [ex3]; exact z_add rfl (by decide : (2 : Int32).toInt = 2) (by omega) (by omega)
  refine va_sld hx hb hX hbl hbA hS (z_in rfl (by omega) (by omega)) dL_law_787 ?_
  refine lv_topi (fun y4 ey4 => ?_)
  refine lv_aload_n hx hb dL_law_788 rfl (lv_at hl 0 rfl) ?_
  refine lv_iload_n hx hb dL_law_789 rfl (lv_at hl 3 rfl) ?_
  refine lv_iconst (v := 3) hx hb dL_law_790 (by decide) ?_
  refine lv_iadd hx hb dL_law_791 ?_
  refine lv_topi (fun x5 ex5 => ?_)
  have tx5 : x5.toInt = i.toInt + 3 := by rw [ex5]; exact z_add rfl (by decide : (3 : Int32).toInt = 3) (by omega) (by omega)
  refine va_sld hx hb hX hbl hbA hS (z_in rfl (by omega) (by omega)) dL_law_792 ?_
  refine lv_topi (fun y6 ey6 => ?_)
  have hjb := lwJ_b hJ
  have hPc := zP_l hP
  have hDc := zD_l hD
  obtain ⟨z8, z9, q10, q11, q12, hs13⟩ := a8_0 hI8
  refine zc_i (va_runV (As := [.int y2, .int y4, .int y6]) (rest := []) ⟨hx, hb, hml, hown, hg⟩ (k_X8_line l g ad8 pe ct8 y2 y4 y6 hI8) (cwV 3 hg (z_gV mm_644 mm_645 mm_646 mm_108 mm_647) rfl rfl rfl (by decide +kernel) ⟨Nat.le_of_ble_eq_true rfl, Nat.le_of_ble_eq_true rfl⟩) ⟨(zR.pre [.ref (ad8 0), .int y2, .int y4, .int y6] hPc hK hN).1, va_recv hK hPc (ci := 8) (q0 := 0) rfl (zw_at (by omega) hs13), (zR.pre [.ref (ad8 0), .int y2, .int y4, .int y6] hPc hK hN).2⟩ rfl rfl hl.1 rfl (lv_room (Nat.le_of_ble_eq_true rfl)) dL_law_793 ⟨(show kq + 0 ≤ 600000 by omega), (show nq + 0 ≤ 7302250 by omega)⟩) (fun r14 hr14 => ?_)
  refine lv_pop hx hb dL_law_796 rfl ?_
  refine lv_aload_n hx hb dL_law_797 rfl (lv_at hl 2 rfl) ?_
  refine lv_aload_n hx hb dL_law_798 rfl (lv_at hl 0 rfl) ?_
  refine lv_iload_n hx hb dL_law_799 rfl (lv_at hl 3 rfl) ?_
  refine lv_iconst (v := 1) hx hb dL_law_800 (by decide) ?_
  refine lv_iadd hx hb dL_law_801 ?_
  refine lv_topi (fun x15 ex15 => ?_)
  obtain rfl : x1 = x15 := ex1.trans ex15.symm
  refine va_sld hx hb hX hbl hbA hS (z_in rfl (by omega) (by omega)) dL_law_802 ?_
  refine lv_topi (fun y16 ey16 => ?_)
  obtain rfl : y2 = y16 := ey2.trans ey16.symm
  refine lv_aload_n hx hb dL_law_803 rfl (lv_at hl 0 rfl) ?_
  refine lv_iload_n hx hb dL_law_804 rfl (lv_at hl 3 rfl) ?_
  refine lv_iconst (v := 2) hx hb dL_law_805 (by decide) ?_
  refine lv_iadd hx hb dL_law_806 ?_
  refine lv_topi (fun x17 ex17 => ?_)
  obtain rfl : x3 = x17 := ex3.trans ex17.symm
  refine va_sld hx hb hX hbl hbA hS (z_in rfl (by omega) (by omega)) dL_law_807 ?_
  refine lv_topi (fun y18 ey18 => ?_)
  obtain rfl : y4 = y18 := ey4.trans ey18.symm
  refine lv_aload_n hx hb dL_law_808 rfl (lv_at hl 0 rfl) ?_
  refine lv_iload_n hx hb dL_law_809 rfl (lv_at hl 3 rfl) ?_
  refine lv_iconst (v := 3) hx hb dL_law_810 (by decide) ?_
  refine lv_iadd hx hb dL_law_811 ?_
  refine lv_topi (fun x19 ex19 => ?_)
  obtain rfl : x5 = x19 := ex5.trans ex19.symm
  refine va_sld hx hb hX hbl hbA hS (z_in rfl (by omega) (by omega)) dL_law_812 ?_
  refine lv_topi (fun y20 ey20 => ?_)
  obtain rfl : y6 = y20 := ey6.trans ey20.symm
  have hjb := lwJ_b hJ
  have hPs := z_swapP hP
  have hDs := z_swapD hD
  have hPc := zP_l hPs
  have hDc := zD_l hDs
  obtain ⟨z22, z23, z24, z25, z26, z27, z28, z29, z30, z31, z32, z33, z34, z35, z36, q37, q38, q39, q40, q41, q42, q43, q44, q45, q46, q47, q48, q49, q50, q51, q52, q53, q54, q55, q56, hs57⟩ := a9_0 hI9.1
  refine zc_i (va_runV (As := [.int y2, .int y4, .int y6]) (rest := []) ⟨hx, hb, hml, hown, hg⟩ (k_X9_line l g ad9 me ct9 y2 y4 y6 hI9) (cwV 3 hg (z_gV mm_1286 mm_1287 mm_1288 mm_117 mm_1289) rfl rfl rfl (by decide +kernel) ⟨Nat.le_of_ble_eq_true rfl, Nat.le_of_ble_eq_true rfl⟩) ⟨(zR.pre [.ref (ad9 0), .int y2, .int y4, .int y6] hPc hK hN).1, va_recv hK hPc (ci := 9) (q0 := 0) rfl (zw_at (by omega) hs57), (zR.pre [.ref (ad9 0), .int y2, .int y4, .int y6] hPc hK hN).2⟩ rfl rfl hl.1 rfl (lv_room (Nat.le_of_ble_eq_true rfl)) dL_law_813 ⟨(show kq + 0 ≤ 600000 by omega), (show nq + 0 ≤ 7302250 by omega)⟩) (fun r58 hr58 => ?_)
  refine lv_pop hx hb dL_law_816 rfl ?_
  refine lv_goto (tgt := 1531) hx hb dL_law_817 (by decide) ?_
  exact kk ad8 ad9 ct8 ct9 pe me _ _ kq nq ls rfl rfl hP hD hS hI8 hI9 hT hJ (lv_sub hl [0, 1, 2, 3] rfl)

set_option maxHeartbeats 4000000 in
set_option maxRecDepth 100000 in
theorem op_fits {p : Program} {e : Env} {s : State} {m : MethodId} {below : List Frame} {meth : Method} {c : Code} (l : Launch) {b L : Nat} {xs : Nat → Int32} (C0 : lw_At p s m meth c b L xs) (g : zG) (hK : zK g s) (hN : zN s) {A : Nat → Prop} (hA : ∀ q, s.heap.size ≤ q → A q) (hA' : ∀ q, A q → s.heap.size ≤ q) (x0 m0 : Nat) (i : Int32) (hi : 0 ≤ i.toInt ∧ i.toInt ≤ 3066) (hiL : i.toInt + 5 < (L : Int)) (kk : ∀ (ad8b ad9b : Nat → Nat) (ct8b ct9b : Nat → va_E) (peb meb : Int32) (H : Heap) (locs : List Loc) (kq nq : Nat) (ls : Array Slot), ad8b 0 = x0 → ad9b 0 = m0 → zP g (zw 126 ad8b ct8b ++ zw 32 ad9b ct9b) H → va_D A (zw 126 ad8b ct8b ++ zw 32 ad9b ct9b) → va_S A s.heap H locs → Inv8 g ad8b peb ct8b → IR g ad9b meb ct9b → tieT ad8b ad9b → lwJ kq nq (zlen (ct8b 20)) → lv_has ls 4 [(0, .ref b), (1, .ref x0), (2, .ref m0), (3, .int i)] → W p l e room_1 s m #[Value.ref b] below meth c H locs kq nq (lw_Z below #[Value.ref b] s) (F0 m 1531 ls [])) (ad8 ad9 : Nat → Nat) (ct8 ct9 : Nat → va_E) (pe me : Int32) (H : Heap) (locs : List Loc) (kq nq : Nat) (ls : Array Slot) (hx0 : ad8 0 = x0) (hm0 : ad9 0 = m0) (hP : zP g (zw 126 ad8 ct8 ++ zw 32 ad9 ct9) H) (hD : va_D A (zw 126 ad8 ct8 ++ zw 32 ad9 ct9)) (hS : va_S A s.heap H locs) (hI8 : Inv8 g ad8 pe ct8) (hI9 : IR g ad9 me ct9) (hT : tieT ad8 ad9) (hJ : lwJ kq nq (zlen (ct8 20))) (hl : lv_has ls 4 [(0, .ref b), (1, .ref x0), (2, .ref m0), (3, .int i)]) : W p l e room_1 s m #[Value.ref b] below meth c H locs kq nq (lw_Z below #[Value.ref b] s) (F0 m 820 ls []) := by
  obtain ⟨hx, hb, hr, hml, hown, hts, hX, hbl, hlocks, hgv⟩ := C0
  have hg : ∀ w ∈ zGW, w.before #[Value.ref b] s = true := fun w h => hts w (List.mem_filter.mp h).1
  have hown : s.vm.findClass RL = some m.cls := hown
  have hbA : ¬ A b := fun h => absurd (hA' b h) (Nat.not_le.mpr hbl)
  subst hx0
  subst hm0
  refine lv_aload_n hx hb dL_law_820 rfl (lv_at hl 1 rfl) ?_
  refine lv_aload_n hx hb dL_law_821 rfl (lv_at hl 0 rfl) ?_
  refine lv_iload_n hx hb dL_law_822 rfl (lv_at hl 3 rfl) ?_
  refine lv_iconst (v := 1) hx hb dL_law_823 (by decide) ?_
  refine lv_iadd hx hb dL_law_824 ?_
  refine lv_topi (fun x1 ex1 => ?_)
  have tx1 : x1.toInt = i.toInt + 1 := by rw [ex1]; exact z_add rfl (by decide : (1 : Int32).toInt = 1) (by omega) (by omega)
  refine va_sld hx hb hX hbl hbA hS (z_in rfl (by omega) (by omega)) dL_law_825 ?_
  refine lv_topi (fun y2 ey2 => ?_)
  refine lv_aload_n hx hb dL_law_826 rfl (lv_at hl 0 rfl) ?_
  refine lv_iload_n hx hb dL_law_827 rfl (lv_at hl 3 rfl) ?_
  refine lv_iconst (v := 2) hx hb dL_law_828 (by decide) ?_
  refine lv_iadd hx hb dL_law_829 ?_
  refine lv_topi (fun x3 ex3 => ?_)
  have tx3 : x3.toInt = i.toInt + 2 := by rw [ex3]; exact z_add rfl (by decide : (2 : Int32).toInt = 2) (by omega) (by omega)
  refine va_sld hx hb hX hbl hbA hS (z_in rfl (by omega) (by omega)) dL_law_830 ?_
  refine lv_topi (fun y4 ey4 => ?_)
  refine lv_aload_n hx hb dL_law_831 rfl (lv_at hl 0 rfl) ?_
  refine lv_iload_n hx hb dL_law_832 rfl (lv_at hl 3 rfl) ?_
  refine lv_iconst (v := 3) hx hb dL_law_833 (by decide) ?_
  refine lv_iadd hx hb dL_law_834 ?_
  refine lv_topi (fun x5 ex5 => ?_)
  have tx5 : x5.toInt = i.toInt + 3 := by rw [ex5]; exact z_add rfl (by decide : (3 : Int32).toInt = 3) (by omega) (by omega)
  refine va_sld hx hb hX hbl hbA hS (z_in rfl (by omega) (by omega)) dL_law_835 ?_
  refine lv_topi (fun y6 ey6 => ?_)
  have hjb := lwJ_b hJ
  have hPc := zP_l hP
  have hDc := zD_l hD
  have hFc := zw_free hDc hS hA
  obtain ⟨z8, z9, q10, q11, q12, hs13⟩ := a8_0 hI8
  refine va_calli (va_runV (As := [.int y2, .int y4, .int y6]) (rest := []) ⟨hx, hb, hml, hown, hg⟩ (zs_i hI8 (k_X8_fits l g _ ad8 pe ct8 y2 y4 y6 hI8)) (cwV 3 hg (z_gV mm_648 mm_649 mm_650 mm_108 mm_651) rfl rfl rfl (by decide +kernel) ⟨Nat.le_of_ble_eq_true rfl, Nat.le_of_ble_eq_true rfl⟩) ⟨(zA.pre [.ref (ad8 0), .int y2, .int y4, .int y6] hPc hK hDc hN).1, va_recv hK hPc (ci := 8) (q0 := 0) rfl (zw_at (by omega) hs13), (zA.pre [.ref (ad8 0), .int y2, .int y4, .int y6] hPc hK hDc hN).2⟩ rfl rfl hl.1 rfl (lv_room (Nat.le_of_ble_eq_true rfl)) dL_law_836 ⟨(show kq + 0 ≤ 600000 by omega), (show nq + 0 ≤ 7302250 by omega)⟩) hS (fun q _ h => hFc q h) hFc (fun r14 u15 t H1 locs ht hvm hr14 hB hz1 hk1 hS => ?_)
  obtain ⟨⟨ct16, hP1, hD1, hI8⟩, hzs⟩ := hB
  rw [ht] at hP1 hzs
  have hzl := hzs.eq hP1 hI8
  rw [← hzl] at hJ
  obtain ⟨hP, hD⟩ := z_two hP hD hk1 hFc hP1 hD1
  generalize H1 = H at hP hS ⊢
  refine W.widen (k := kq) (n := nq) (Nat.le_refl _) (Nat.le_refl _) ?_
  refine lv_pop hx hb dL_law_839 rfl ?_
  refine lv_aload_n hx hb dL_law_840 rfl (lv_at hl 2 rfl) ?_
  refine lv_aload_n hx hb dL_law_841 rfl (lv_at hl 0 rfl) ?_
  refine lv_iload_n hx hb dL_law_842 rfl (lv_at hl 3 rfl) ?_
  refine lv_iconst (v := 1) hx hb dL_law_843 (by decide) ?_
  refine lv_iadd hx hb dL_law_844 ?_
  refine lv_topi (fun x17 ex17 => ?_)
  obtain rfl : x1 = x17 := ex1.trans ex17.symm
  refine va_sld hx hb hX hbl hbA hS (z_in rfl (by omega) (by omega)) dL_law_845 ?_
  refine lv_topi (fun y18 ey18 => ?_)
  obtain rfl : y2 = y18 := ey2.trans ey18.symm
  refine lv_aload_n hx hb dL_law_846 rfl (lv_at hl 0 rfl) ?_
  refine lv_iload_n hx hb dL_law_847 rfl (lv_at hl 3 rfl) ?_
  refine lv_iconst (v := 2) hx hb dL_law_848 (by decide) ?_
  refine lv_iadd hx hb dL_law_849 ?_
  refine lv_topi (fun x19 ex19 => ?_)
  obtain rfl : x3 = x19 := ex3.trans ex19.symm
  refine va_sld hx hb hX hbl hbA hS (z_in rfl (by omega) (by omega)) dL_law_850 ?_
  refine lv_topi (fun y20 ey20 => ?_)
  obtain rfl : y4 = y20 := ey4.trans ey20.symm
  refine lv_aload_n hx hb dL_law_851 rfl (lv_at hl 0 rfl) ?_
  refine lv_iload_n hx hb dL_law_852 rfl (lv_at hl 3 rfl) ?_
  refine lv_iconst (v := 3) hx hb dL_law_853 (by decide) ?_
  refine lv_iadd hx hb dL_law_854 ?_
  refine lv_topi (fun x21 ex21 => ?_)
  obtain rfl : x5 = x21 := ex5.trans ex21.symm
  refine va_sld hx hb hX hbl hbA hS (z_in rfl (by omega) (by omega)) dL_law_855 ?_
  refine lv_topi (fun y22 ey22 => ?_)
  obtain rfl : y6 = y22 := ey6.trans ey22.symm
  have hjb := lwJ_b hJ
  have hPs := z_swapP hP
  have hDs := z_swapD hD
  have hPc := zP_l hPs
  have hDc := zD_l hDs
  have hFc := zw_free hDc hS hA
  obtain ⟨z24, z25, z26, z27, z28, z29, z30, z31, z32, z33, z34, z35, z36, z37, z38, q39, q40, q41, q42, q43, q44, q45, q46, q47, q48, q49, q50, q51, q52, q53, q54, q55, q56, q57, q58, hs59⟩ := a9_0 hI9.1
  refine va_calli (va_runV (As := [.int y2, .int y4, .int y6]) (rest := []) ⟨hx, hb, hml, hown, hg⟩ (k_X9_fits l g _ ad9 me ct9 y2 y4 y6 hI9) (cwV 3 hg (z_gV mm_1290 mm_1291 mm_1292 mm_117 mm_1293) rfl rfl rfl (by decide +kernel) ⟨Nat.le_of_ble_eq_true rfl, Nat.le_of_ble_eq_true rfl⟩) ⟨(zA.pre [.ref (ad9 0), .int y2, .int y4, .int y6] hPc hK hDc hN).1, va_recv hK hPc (ci := 9) (q0 := 0) rfl (zw_at (by omega) hs59), (zA.pre [.ref (ad9 0), .int y2, .int y4, .int y6] hPc hK hDc hN).2⟩ rfl rfl hl.1 rfl (lv_room (Nat.le_of_ble_eq_true rfl)) dL_law_856 ⟨(show kq + 0 ≤ 600000 by omega), (show nq + 0 ≤ 7302250 by omega)⟩) hS (fun q _ h => hFc q h) hFc (fun r60 u61 t H1 locs ht hvm hr60 hB hz1 hk1 hS => ?_)
  obtain ⟨ct62, hP1, hD1, hI9⟩ := hB
  rw [ht] at hP1
  obtain ⟨hP, hD⟩ := z_two hPs hDs hk1 hFc hP1 hD1
  have hP := z_swapP hP
  have hD := z_swapD hD
  generalize H1 = H at hP hS ⊢
  refine W.widen (k := kq) (n := nq) (Nat.le_refl _) (Nat.le_refl _) ?_
  refine lv_pop hx hb dL_law_859 rfl ?_
  refine lv_goto (tgt := 1531) hx hb dL_law_860 (by decide) ?_
  exact kk ad8 ad9 ct16 ct62 pe me _ _ kq nq ls rfl rfl hP hD hS hI8 hI9 hT hJ (lv_sub hl [0, 1, 2, 3] rfl)

set_option maxHeartbeats 4000000 in
set_option maxRecDepth 100000 in
theorem op_givings {p : Program} {e : Env} {s : State} {m : MethodId} {below : List Frame} {meth : Method} {c : Code} (l : Launch) {b L : Nat} {xs : Nat → Int32} (C0 : lw_At p s m meth c b L xs) (g : zG) (hK : zK g s) (hN : zN s) {A : Nat → Prop} (hA : ∀ q, s.heap.size ≤ q → A q) (hA' : ∀ q, A q → s.heap.size ≤ q) (x0 m0 : Nat) (i : Int32) (hi : 0 ≤ i.toInt ∧ i.toInt ≤ 3066) (hiL : i.toInt + 5 < (L : Int)) (kk : ∀ (ad8b ad9b : Nat → Nat) (ct8b ct9b : Nat → va_E) (peb meb : Int32) (H : Heap) (locs : List Loc) (kq nq : Nat) (ls : Array Slot), ad8b 0 = x0 → ad9b 0 = m0 → zP g (zw 126 ad8b ct8b ++ zw 32 ad9b ct9b) H → va_D A (zw 126 ad8b ct8b ++ zw 32 ad9b ct9b) → va_S A s.heap H locs → Inv8 g ad8b peb ct8b → IR g ad9b meb ct9b → tieT ad8b ad9b → lwJ kq nq (zlen (ct8b 20)) → lv_has ls 4 [(0, .ref b), (1, .ref x0), (2, .ref m0), (3, .int i)] → W p l e room_1 s m #[Value.ref b] below meth c H locs kq nq (lw_Z below #[Value.ref b] s) (F0 m 1531 ls [])) (ad8 ad9 : Nat → Nat) (ct8 ct9 : Nat → va_E) (pe me : Int32) (H : Heap) (locs : List Loc) (kq nq : Nat) (ls : Array Slot) (hx0 : ad8 0 = x0) (hm0 : ad9 0 = m0) (hP : zP g (zw 126 ad8 ct8 ++ zw 32 ad9 ct9) H) (hD : va_D A (zw 126 ad8 ct8 ++ zw 32 ad9 ct9)) (hS : va_S A s.heap H locs) (hI8 : Inv8 g ad8 pe ct8) (hI9 : IR g ad9 me ct9) (hT : tieT ad8 ad9) (hJ : lwJ kq nq (zlen (ct8 20))) (hl : lv_has ls 4 [(0, .ref b), (1, .ref x0), (2, .ref m0), (3, .int i)]) : W p l e room_1 s m #[Value.ref b] below meth c H locs kq nq (lw_Z below #[Value.ref b] s) (F0 m 863 ls []) := by
  obtain ⟨hx, hb, hr, hml, hown, hts, hX, hbl, hlocks, hgv⟩ := C0
  have hg : ∀ w ∈ zGW, w.before #[Value.ref b] s = true := fun w h => hts w (List.mem_filter.mp h).1
  have hown : s.vm.findClass RL = some m.cls := hown
  have hbA : ¬ A b := fun h => absurd (hA' b h) (Nat.not_le.mpr hbl)
  subst hx0
  subst hm0
  refine lv_aload_n hx hb dL_law_863 rfl (lv_at hl 1 rfl) ?_
  refine lv_aload_n hx hb dL_law_864 rfl (lv_at hl 0 rfl) ?_
  refine lv_iload_n hx hb dL_law_865 rfl (lv_at hl 3 rfl) ?_
  refine lv_iconst (v := 1) hx hb dL_law_866 (by decide) ?_
  refine lv_iadd hx hb dL_law_867 ?_
  refine lv_topi (fun x1 ex1 => ?_)
  have tx1 : x1.toInt = i.toInt + 1 := by rw [ex1]; exact z_add rfl (by decide : (1 : Int32).toInt = 1) (by omega) (by omega)
  refine va_sld hx hb hX hbl hbA hS (z_in rfl (by omega) (by omega)) dL_law_868 ?_
  refine lv_topi (fun y2 ey2 => ?_)
  refine lv_aload_n hx hb dL_law_869 rfl (lv_at hl 0 rfl) ?_
  refine lv_iload_n hx hb dL_law_870 rfl (lv_at hl 3 rfl) ?_
  refine lv_iconst (v := 2) hx hb dL_law_871 (by decide) ?_
  refine lv_iadd hx hb dL_law_872 ?_
  refine lv_topi (fun x3 ex3 => ?_)
  have tx3 : x3.toInt = i.toInt + 2 := by rw [ex3]; exact z_add rfl (by decide : (2 : Int32).toInt = 2) (by omega) (by omega)
  refine va_sld hx hb hX hbl hbA hS (z_in rfl (by omega) (by omega)) dL_law_873 ?_
  refine lv_topi (fun y4 ey4 => ?_)
  have hjb := lwJ_b hJ
  have hPc := zP_l hP
  have hDc := zD_l hD
  have hFc := zw_free hDc hS hA
  obtain ⟨z6, z7, q8, q9, q10, hs11⟩ := a8_0 hI8
  refine va_calll (va_runV (As := [.int y2, .int y4]) (rest := []) ⟨hx, hb, hml, hown, hg⟩ (zs_l hI8 (k_X8_givings l g _ ad8 pe ct8 y2 y4 hI8)) (cwV 2 hg (z_gV mm_695 mm_696 mm_697 mm_108 mm_698) rfl rfl rfl (by decide +kernel) ⟨Nat.le_of_ble_eq_true rfl, Nat.le_of_ble_eq_true rfl⟩) ⟨(zA.pre [.ref (ad8 0), .int y2, .int y4] hPc hK hDc hN).1, va_recv hK hPc (ci := 8) (q0 := 0) rfl (zw_at (by omega) hs11), (zA.pre [.ref (ad8 0), .int y2, .int y4] hPc hK hDc hN).2⟩ rfl rfl hl.1 rfl (lv_room (Nat.le_of_ble_eq_true rfl)) dL_law_874 ⟨(show kq + 0 ≤ 600000 by omega), (show nq + 0 ≤ 7302250 by omega)⟩) hS (fun q _ h => hFc q h) hFc (fun r12 u13 t H1 locs ht hvm hr12 hB hz1 hk1 hS => ?_)
  obtain ⟨⟨ct14, hP1, hD1, hI8⟩, hzs⟩ := hB
  rw [ht] at hP1 hzs
  have hzl := hzs.eq hP1 hI8
  rw [← hzl] at hJ
  obtain ⟨hP, hD⟩ := z_two hP hD hk1 hFc hP1 hD1
  generalize H1 = H at hP hS ⊢
  refine W.widen (k := kq) (n := nq) (Nat.le_refl _) (Nat.le_refl _) ?_
  refine lv_pop2_2 hx hb dL_law_877 rfl ?_
  refine lv_aload_n hx hb dL_law_878 rfl (lv_at hl 2 rfl) ?_
  refine lv_aload_n hx hb dL_law_879 rfl (lv_at hl 0 rfl) ?_
  refine lv_iload_n hx hb dL_law_880 rfl (lv_at hl 3 rfl) ?_
  refine lv_iconst (v := 1) hx hb dL_law_881 (by decide) ?_
  refine lv_iadd hx hb dL_law_882 ?_
  refine lv_topi (fun x15 ex15 => ?_)
  obtain rfl : x1 = x15 := ex1.trans ex15.symm
  refine va_sld hx hb hX hbl hbA hS (z_in rfl (by omega) (by omega)) dL_law_883 ?_
  refine lv_topi (fun y16 ey16 => ?_)
  obtain rfl : y2 = y16 := ey2.trans ey16.symm
  refine lv_aload_n hx hb dL_law_884 rfl (lv_at hl 0 rfl) ?_
  refine lv_iload_n hx hb dL_law_885 rfl (lv_at hl 3 rfl) ?_
  refine lv_iconst (v := 2) hx hb dL_law_886 (by decide) ?_
  refine lv_iadd hx hb dL_law_887 ?_
  refine lv_topi (fun x17 ex17 => ?_)
  obtain rfl : x3 = x17 := ex3.trans ex17.symm
  refine va_sld hx hb hX hbl hbA hS (z_in rfl (by omega) (by omega)) dL_law_888 ?_
  refine lv_topi (fun y18 ey18 => ?_)
  obtain rfl : y4 = y18 := ey4.trans ey18.symm
  have hjb := lwJ_b hJ
  have hPs := z_swapP hP
  have hDs := z_swapD hD
  have hPc := zP_l hPs
  have hDc := zD_l hDs
  have hFc := zw_free hDc hS hA
  obtain ⟨z20, z21, z22, z23, z24, z25, z26, z27, z28, z29, z30, z31, z32, z33, z34, q35, q36, q37, q38, q39, q40, q41, q42, q43, q44, q45, q46, q47, q48, q49, q50, q51, q52, q53, q54, hs55⟩ := a9_0 hI9.1
  refine va_calll (va_runV (As := [.int y2, .int y4]) (rest := []) ⟨hx, hb, hml, hown, hg⟩ (k_X9_givings l g _ ad9 me ct9 y2 y4 hI9) (cwV 2 hg (z_gV mm_1324 mm_1325 mm_1326 mm_117 mm_1327) rfl rfl rfl (by decide +kernel) ⟨Nat.le_of_ble_eq_true rfl, Nat.le_of_ble_eq_true rfl⟩) ⟨(zA.pre [.ref (ad9 0), .int y2, .int y4] hPc hK hDc hN).1, va_recv hK hPc (ci := 9) (q0 := 0) rfl (zw_at (by omega) hs55), (zA.pre [.ref (ad9 0), .int y2, .int y4] hPc hK hDc hN).2⟩ rfl rfl hl.1 rfl (lv_room (Nat.le_of_ble_eq_true rfl)) dL_law_889 ⟨(show kq + 0 ≤ 600000 by omega), (show nq + 0 ≤ 7302250 by omega)⟩) hS (fun q _ h => hFc q h) hFc (fun r56 u57 t H1 locs ht hvm hr56 hB hz1 hk1 hS => ?_)
  obtain ⟨ct58, hP1, hD1, hI9⟩ := hB
  rw [ht] at hP1
  obtain ⟨hP, hD⟩ := z_two hPs hDs hk1 hFc hP1 hD1
  have hP := z_swapP hP
  have hD := z_swapD hD
  generalize H1 = H at hP hS ⊢
  refine W.widen (k := kq) (n := nq) (Nat.le_refl _) (Nat.le_refl _) ?_
  refine lv_pop2_2 hx hb dL_law_892 rfl ?_
  refine lv_goto (tgt := 1531) hx hb dL_law_893 (by decide) ?_
  exact kk ad8 ad9 ct14 ct58 pe me _ _ kq nq ls rfl rfl hP hD hS hI8 hI9 hT hJ (lv_sub hl [0, 1, 2, 3] rfl)

set_option maxHeartbeats 4000000 in
set_option maxRecDepth 100000 in
theorem op_odds {p : Program} {e : Env} {s : State} {m : MethodId} {below : List Frame} {meth : Method} {c : Code} (l : Launch) {b L : Nat} {xs : Nat → Int32} (C0 : lw_At p s m meth c b L xs) (g : zG) (hK : zK g s) (hN : zN s) {A : Nat → Prop} (hA : ∀ q, s.heap.size ≤ q → A q) (hA' : ∀ q, A q → s.heap.size ≤ q) (x0 m0 : Nat) (i : Int32) (hi : 0 ≤ i.toInt ∧ i.toInt ≤ 3066) (hiL : i.toInt + 5 < (L : Int)) (kk : ∀ (ad8b ad9b : Nat → Nat) (ct8b ct9b : Nat → va_E) (peb meb : Int32) (H : Heap) (locs : List Loc) (kq nq : Nat) (ls : Array Slot), ad8b 0 = x0 → ad9b 0 = m0 → zP g (zw 126 ad8b ct8b ++ zw 32 ad9b ct9b) H → va_D A (zw 126 ad8b ct8b ++ zw 32 ad9b ct9b) → va_S A s.heap H locs → Inv8 g ad8b peb ct8b → IR g ad9b meb ct9b → tieT ad8b ad9b → lwJ kq nq (zlen (ct8b 20)) → lv_has ls 4 [(0, .ref b), (1, .ref x0), (2, .ref m0), (3, .int i)] → W p l e room_1 s m #[Value.ref b] below meth c H locs kq nq (lw_Z below #[Value.ref b] s) (F0 m 1531 ls [])) (ad8 ad9 : Nat → Nat) (ct8 ct9 : Nat → va_E) (pe me : Int32) (H : Heap) (locs : List Loc) (kq nq : Nat) (ls : Array Slot) (hx0 : ad8 0 = x0) (hm0 : ad9 0 = m0) (hP : zP g (zw 126 ad8 ct8 ++ zw 32 ad9 ct9) H) (hD : va_D A (zw 126 ad8 ct8 ++ zw 32 ad9 ct9)) (hS : va_S A s.heap H locs) (hI8 : Inv8 g ad8 pe ct8) (hI9 : IR g ad9 me ct9) (hT : tieT ad8 ad9) (hJ : lwJ kq nq (zlen (ct8 20))) (hl : lv_has ls 4 [(0, .ref b), (1, .ref x0), (2, .ref m0), (3, .int i)]) : W p l e room_1 s m #[Value.ref b] below meth c H locs kq nq (lw_Z below #[Value.ref b] s) (F0 m 896 ls []) := by
  obtain ⟨hx, hb, hr, hml, hown, hts, hX, hbl, hlocks, hgv⟩ := C0
  have hg : ∀ w ∈ zGW, w.before #[Value.ref b] s = true := fun w h => hts w (List.mem_filter.mp h).1
  have hown : s.vm.findClass RL = some m.cls := hown
  have hbA : ¬ A b := fun h => absurd (hA' b h) (Nat.not_le.mpr hbl)
  subst hx0
  subst hm0
  refine lv_aload_n hx hb dL_law_896 rfl (lv_at hl 1 rfl) ?_
  refine lv_aload_n hx hb dL_law_897 rfl (lv_at hl 0 rfl) ?_
  refine lv_iload_n hx hb dL_law_898 rfl (lv_at hl 3 rfl) ?_
  refine lv_iconst (v := 1) hx hb dL_law_899 (by decide) ?_
  refine lv_iadd hx hb dL_law_900 ?_
  refine lv_topi (fun x1 ex1 => ?_)
  have tx1 : x1.toInt = i.toInt + 1 := by rw [ex1]; exact z_add rfl (by decide : (1 : Int32).toInt = 1) (by omega) (by omega)
  refine va_sld hx hb hX hbl hbA hS (z_in rfl (by omega) (by omega)) dL_law_901 ?_
  refine lv_topi (fun y2 ey2 => ?_)
  refine lv_aload_n hx hb dL_law_902 rfl (lv_at hl 0 rfl) ?_
  refine lv_iload_n hx hb dL_law_903 rfl (lv_at hl 3 rfl) ?_
  refine lv_iconst (v := 2) hx hb dL_law_904 (by decide) ?_
  refine lv_iadd hx hb dL_law_905 ?_
  refine lv_topi (fun x3 ex3 => ?_)
  have tx3 : x3.toInt = i.toInt + 2 := by rw [ex3]; exact z_add rfl (by decide : (2 : Int32).toInt = 2) (by omega) (by omega)
  refine va_sld hx hb hX hbl hbA hS (z_in rfl (by omega) (by omega)) dL_law_906 ?_
  refine lv_topi (fun y4 ey4 => ?_)
  refine lv_aload_n hx hb dL_law_907 rfl (lv_at hl 0 rfl) ?_
  refine lv_iload_n hx hb dL_law_908 rfl (lv_at hl 3 rfl) ?_
  refine lv_iconst (v := 3) hx hb dL_law_909 (by decide) ?_
  refine lv_iadd hx hb dL_law_910 ?_
  refine lv_topi (fun x5 ex5 => ?_)
  have tx5 : x5.toInt = i.toInt + 3 := by rw [ex5]; exact z_add rfl (by decide : (3 : Int32).toInt = 3) (by omega) (by omega)
  refine va_sld hx hb hX hbl hbA hS (z_in rfl (by omega) (by omega)) dL_law_911 ?_
  refine lv_topi (fun y6 ey6 => ?_)
  refine lv_aload_n hx hb dL_law_912 rfl (lv_at hl 0 rfl) ?_
  refine lv_iload_n hx hb dL_law_913 rfl (lv_at hl 3 rfl) ?_
  refine lv_iconst (v := 4) hx hb dL_law_914 (by decide) ?_
  refine lv_iadd hx hb dL_law_915 ?_
  refine lv_topi (fun x7 ex7 => ?_)
  have tx7 : x7.toInt = i.toInt + 4 := by rw [ex7]; exact z_add rfl (by decide : (4 : Int32).toInt = 4) (by omega) (by omega)
  refine va_sld hx hb hX hbl hbA hS (z_in rfl (by omega) (by omega)) dL_law_916 ?_
  refine lv_topi (fun y8 ey8 => ?_)
  refine lv_aload_n hx hb dL_law_917 rfl (lv_at hl 0 rfl) ?_
  refine lv_iload_n hx hb dL_law_918 rfl (lv_at hl 3 rfl) ?_
  refine lv_iconst (v := 5) hx hb dL_law_919 (by decide) ?_
  refine lv_iadd hx hb dL_law_920 ?_
  refine lv_topi (fun x9 ex9 => ?_)
  have tx9 : x9.toInt = i.toInt + 5 := by rw [ex9]; exact z_add rfl (by decide : (5 : Int32).toInt = 5) (by omega) (by omega)
  refine va_sld hx hb hX hbl hbA hS (z_in rfl (by omega) (by omega)) dL_law_921 ?_
  refine lv_topi (fun y10 ey10 => ?_)
  have hjb := lwJ_b hJ
  have hPc := zP_l hP
  have hDc := zD_l hD
  have hFc := zw_free hDc hS hA
  obtain ⟨z12, z13, q14, q15, q16, hs17⟩ := a8_0 hI8
  refine va_calll (va_runV (As := [.int y2, .int y4, .int y6, .int y8, .int y10]) (rest := []) ⟨hx, hb, hml, hown, hg⟩ (zs_l hI8 (k_X8_odds l g _ ad8 pe ct8 y2 y4 y6 y8 y10 hI8)) (cwV 5 hg (z_gV mm_708 mm_709 mm_710 mm_108 mm_711) rfl rfl rfl (by decide +kernel) ⟨Nat.le_of_ble_eq_true rfl, Nat.le_of_ble_eq_true rfl⟩) ⟨(zA.pre [.ref (ad8 0), .int y2, .int y4, .int y6, .int y8, .int y10] hPc hK hDc hN).1, va_recv hK hPc (ci := 8) (q0 := 0) rfl (zw_at (by omega) hs17), (zA.pre [.ref (ad8 0), .int y2, .int y4, .int y6, .int y8, .int y10] hPc hK hDc hN).2⟩ rfl rfl hl.1 rfl (lv_room (Nat.le_of_ble_eq_true rfl)) dL_law_922 ⟨(show kq + 0 ≤ 600000 by omega), (show nq + 0 ≤ 7302250 by omega)⟩) hS (fun q _ h => hFc q h) hFc (fun r18 u19 t H1 locs ht hvm hr18 hB hz1 hk1 hS => ?_)
  obtain ⟨⟨ct20, hP1, hD1, hI8⟩, hzs⟩ := hB
  rw [ht] at hP1 hzs
  have hzl := hzs.eq hP1 hI8
  rw [← hzl] at hJ
  obtain ⟨hP, hD⟩ := z_two hP hD hk1 hFc hP1 hD1
  generalize H1 = H at hP hS ⊢
  refine W.widen (k := kq) (n := nq) (Nat.le_refl _) (Nat.le_refl _) ?_
  refine lv_pop2_2 hx hb dL_law_925 rfl ?_
  refine lv_aload_n hx hb dL_law_926 rfl (lv_at hl 2 rfl) ?_
  refine lv_aload_n hx hb dL_law_927 rfl (lv_at hl 0 rfl) ?_
  refine lv_iload_n hx hb dL_law_928 rfl (lv_at hl 3 rfl) ?_
  refine lv_iconst (v := 1) hx hb dL_law_929 (by decide) ?_
  refine lv_iadd hx hb dL_law_930 ?_
  refine lv_topi (fun x21 ex21 => ?_)
  obtain rfl : x1 = x21 := ex1.trans ex21.symm
  refine va_sld hx hb hX hbl hbA hS (z_in rfl (by omega) (by omega)) dL_law_931 ?_
  refine lv_topi (fun y22 ey22 => ?_)
  obtain rfl : y2 = y22 := ey2.trans ey22.symm
  refine lv_aload_n hx hb dL_law_932 rfl (lv_at hl 0 rfl) ?_
  refine lv_iload_n hx hb dL_law_933 rfl (lv_at hl 3 rfl) ?_
  refine lv_iconst (v := 2) hx hb dL_law_934 (by decide) ?_
  refine lv_iadd hx hb dL_law_935 ?_
  refine lv_topi (fun x23 ex23 => ?_)
  obtain rfl : x3 = x23 := ex3.trans ex23.symm
  refine va_sld hx hb hX hbl hbA hS (z_in rfl (by omega) (by omega)) dL_law_936 ?_
  refine lv_topi (fun y24 ey24 => ?_)
  obtain rfl : y4 = y24 := ey4.trans ey24.symm
  refine lv_aload_n hx hb dL_law_937 rfl (lv_at hl 0 rfl) ?_
  refine lv_iload_n hx hb dL_law_938 rfl (lv_at hl 3 rfl) ?_
  refine lv_iconst (v := 3) hx hb dL_law_939 (by decide) ?_
  refine lv_iadd hx hb dL_law_940 ?_
  refine lv_topi (fun x25 ex25 => ?_)
  obtain rfl : x5 = x25 := ex5.trans ex25.symm
  refine va_sld hx hb hX hbl hbA hS (z_in rfl (by omega) (by omega)) dL_law_941 ?_
  refine lv_topi (fun y26 ey26 => ?_)
  obtain rfl : y6 = y26 := ey6.trans ey26.symm
  refine lv_aload_n hx hb dL_law_942 rfl (lv_at hl 0 rfl) ?_
  refine lv_iload_n hx hb dL_law_943 rfl (lv_at hl 3 rfl) ?_
  refine lv_iconst (v := 4) hx hb dL_law_944 (by decide) ?_
  refine lv_iadd hx hb dL_law_945 ?_
  refine lv_topi (fun x27 ex27 => ?_)
  obtain rfl : x7 = x27 := ex7.trans ex27.symm
  refine va_sld hx hb hX hbl hbA hS (z_in rfl (by omega) (by omega)) dL_law_946 ?_
  refine lv_topi (fun y28 ey28 => ?_)
  obtain rfl : y8 = y28 := ey8.trans ey28.symm
  refine lv_aload_n hx hb dL_law_947 rfl (lv_at hl 0 rfl) ?_
  refine lv_iload_n hx hb dL_law_948 rfl (lv_at hl 3 rfl) ?_
  refine lv_iconst (v := 5) hx hb dL_law_949 (by decide) ?_
  refine lv_iadd hx hb dL_law_950 ?_
  refine lv_topi (fun x29 ex29 => ?_)
  obtain rfl : x9 = x29 := ex9.trans ex29.symm
  refine va_sld hx hb hX hbl hbA hS (z_in rfl (by omega) (by omega)) dL_law_951 ?_
  refine lv_topi (fun y30 ey30 => ?_)
  obtain rfl : y10 = y30 := ey10.trans ey30.symm
  have hjb := lwJ_b hJ
  have hPs := z_swapP hP
  have hDs := z_swapD hD
  have hPc := zP_l hPs
  have hDc := zD_l hDs
  have hFc := zw_free hDc hS hA
  obtain ⟨z32, z33, z34, z35, z36, z37, z38, z39, z40, z41, z42, z43, z44, z45, z46, q47, q48, q49, q50, q51, q52, q53, q54, q55, q56, q57, q58, q59, q60, q61, q62, q63, q64, q65, q66, hs67⟩ := a9_0 hI9.1
  refine va_calll (va_runV (As := [.int y2, .int y4, .int y6, .int y8, .int y10]) (rest := []) ⟨hx, hb, hml, hown, hg⟩ (k_X9_odds l g _ ad9 me ct9 y2 y4 y6 y8 y10 hI9) (cwV 5 hg (z_gV mm_1341 mm_1342 mm_1343 mm_117 mm_1344) rfl rfl rfl (by decide +kernel) ⟨Nat.le_of_ble_eq_true rfl, Nat.le_of_ble_eq_true rfl⟩) ⟨(zA.pre [.ref (ad9 0), .int y2, .int y4, .int y6, .int y8, .int y10] hPc hK hDc hN).1, va_recv hK hPc (ci := 9) (q0 := 0) rfl (zw_at (by omega) hs67), (zA.pre [.ref (ad9 0), .int y2, .int y4, .int y6, .int y8, .int y10] hPc hK hDc hN).2⟩ rfl rfl hl.1 rfl (lv_room (Nat.le_of_ble_eq_true rfl)) dL_law_952 ⟨(show kq + 0 ≤ 600000 by omega), (show nq + 0 ≤ 7302250 by omega)⟩) hS (fun q _ h => hFc q h) hFc (fun r68 u69 t H1 locs ht hvm hr68 hB hz1 hk1 hS => ?_)
  obtain ⟨ct70, hP1, hD1, hI9⟩ := hB
  rw [ht] at hP1
  obtain ⟨hP, hD⟩ := z_two hPs hDs hk1 hFc hP1 hD1
  have hP := z_swapP hP
  have hD := z_swapD hD
  generalize H1 = H at hP hS ⊢
  refine W.widen (k := kq) (n := nq) (Nat.le_refl _) (Nat.le_refl _) ?_
  refine lv_pop2_2 hx hb dL_law_955 rfl ?_
  refine lv_goto (tgt := 1531) hx hb dL_law_956 (by decide) ?_
  exact kk ad8 ad9 ct20 ct70 pe me _ _ kq nq ls rfl rfl hP hD hS hI8 hI9 hT hJ (lv_sub hl [0, 1, 2, 3] rfl)

set_option maxHeartbeats 4000000 in
set_option maxRecDepth 100000 in
theorem op_mustBe {p : Program} {e : Env} {s : State} {m : MethodId} {below : List Frame} {meth : Method} {c : Code} (l : Launch) {b L : Nat} {xs : Nat → Int32} (C0 : lw_At p s m meth c b L xs) (g : zG) (hK : zK g s) (hN : zN s) {A : Nat → Prop} (hA : ∀ q, s.heap.size ≤ q → A q) (hA' : ∀ q, A q → s.heap.size ≤ q) (x0 m0 : Nat) (i : Int32) (hi : 0 ≤ i.toInt ∧ i.toInt ≤ 3066) (hiL : i.toInt + 5 < (L : Int)) (kk : ∀ (ad8b ad9b : Nat → Nat) (ct8b ct9b : Nat → va_E) (peb meb : Int32) (H : Heap) (locs : List Loc) (kq nq : Nat) (ls : Array Slot), ad8b 0 = x0 → ad9b 0 = m0 → zP g (zw 126 ad8b ct8b ++ zw 32 ad9b ct9b) H → va_D A (zw 126 ad8b ct8b ++ zw 32 ad9b ct9b) → va_S A s.heap H locs → Inv8 g ad8b peb ct8b → IR g ad9b meb ct9b → tieT ad8b ad9b → lwJ kq nq (zlen (ct8b 20)) → lv_has ls 4 [(0, .ref b), (1, .ref x0), (2, .ref m0), (3, .int i)] → W p l e room_1 s m #[Value.ref b] below meth c H locs kq nq (lw_Z below #[Value.ref b] s) (F0 m 1531 ls [])) (ad8 ad9 : Nat → Nat) (ct8 ct9 : Nat → va_E) (pe me : Int32) (H : Heap) (locs : List Loc) (kq nq : Nat) (ls : Array Slot) (hx0 : ad8 0 = x0) (hm0 : ad9 0 = m0) (hP : zP g (zw 126 ad8 ct8 ++ zw 32 ad9 ct9) H) (hD : va_D A (zw 126 ad8 ct8 ++ zw 32 ad9 ct9)) (hS : va_S A s.heap H locs) (hI8 : Inv8 g ad8 pe ct8) (hI9 : IR g ad9 me ct9) (hT : tieT ad8 ad9) (hJ : lwJ kq nq (zlen (ct8 20))) (hl : lv_has ls 4 [(0, .ref b), (1, .ref x0), (2, .ref m0), (3, .int i)]) : W p l e room_1 s m #[Value.ref b] below meth c H locs kq nq (lw_Z below #[Value.ref b] s) (F0 m 959 ls []) := by
  obtain ⟨hx, hb, hr, hml, hown, hts, hX, hbl, hlocks, hgv⟩ := C0
  have hg : ∀ w ∈ zGW, w.before #[Value.ref b] s = true := fun w h => hts w (List.mem_filter.mp h).1
  have hown : s.vm.findClass RL = some m.cls := hown
  have hbA : ¬ A b := fun h => absurd (hA' b h) (Nat.not_le.mpr hbl)
  subst hx0
  subst hm0
  refine lv_aload_n hx hb dL_law_959 rfl (lv_at hl 1 rfl) ?_
  refine lv_aload_n hx hb dL_law_960 rfl (lv_at hl 0 rfl) ?_
  refine lv_iload_n hx hb dL_law_961 rfl (lv_at hl 3 rfl) ?_
  refine lv_iconst (v := 1) hx hb dL_law_962 (by decide) ?_
  refine lv_iadd hx hb dL_law_963 ?_
  refine lv_topi (fun x1 ex1 => ?_)
  have tx1 : x1.toInt = i.toInt + 1 := by rw [ex1]; exact z_add rfl (by decide : (1 : Int32).toInt = 1) (by omega) (by omega)
  refine va_sld hx hb hX hbl hbA hS (z_in rfl (by omega) (by omega)) dL_law_964 ?_
  refine lv_topi (fun y2 ey2 => ?_)
  refine lv_aload_n hx hb dL_law_965 rfl (lv_at hl 0 rfl) ?_
  refine lv_iload_n hx hb dL_law_966 rfl (lv_at hl 3 rfl) ?_
  refine lv_iconst (v := 2) hx hb dL_law_967 (by decide) ?_
  refine lv_iadd hx hb dL_law_968 ?_
  refine lv_topi (fun x3 ex3 => ?_)
  have tx3 : x3.toInt = i.toInt + 2 := by rw [ex3]; exact z_add rfl (by decide : (2 : Int32).toInt = 2) (by omega) (by omega)
  refine va_sld hx hb hX hbl hbA hS (z_in rfl (by omega) (by omega)) dL_law_969 ?_
  refine lv_topi (fun y4 ey4 => ?_)
  refine lv_aload_n hx hb dL_law_970 rfl (lv_at hl 0 rfl) ?_
  refine lv_iload_n hx hb dL_law_971 rfl (lv_at hl 3 rfl) ?_
  refine lv_iconst (v := 3) hx hb dL_law_972 (by decide) ?_
  refine lv_iadd hx hb dL_law_973 ?_
  refine lv_topi (fun x5 ex5 => ?_)
  have tx5 : x5.toInt = i.toInt + 3 := by rw [ex5]; exact z_add rfl (by decide : (3 : Int32).toInt = 3) (by omega) (by omega)
  refine va_sld hx hb hX hbl hbA hS (z_in rfl (by omega) (by omega)) dL_law_974 ?_
  refine lv_topi (fun y6 ey6 => ?_)
  refine lv_aload_n hx hb dL_law_975 rfl (lv_at hl 0 rfl) ?_
  refine lv_iload_n hx hb dL_law_976 rfl (lv_at hl 3 rfl) ?_
  refine lv_iconst (v := 4) hx hb dL_law_977 (by decide) ?_
  refine lv_iadd hx hb dL_law_978 ?_
  refine lv_topi (fun x7 ex7 => ?_)
  have tx7 : x7.toInt = i.toInt + 4 := by rw [ex7]; exact z_add rfl (by decide : (4 : Int32).toInt = 4) (by omega) (by omega)
  refine va_sld hx hb hX hbl hbA hS (z_in rfl (by omega) (by omega)) dL_law_979 ?_
  refine lv_topi (fun y8 ey8 => ?_)
  have hjb := lwJ_b hJ
  have hPc := zP_l hP
  have hDc := zD_l hD
  have hFc := zw_free hDc hS hA
  obtain ⟨z10, z11, q12, q13, q14, hs15⟩ := a8_0 hI8
  refine va_calli (va_runV (As := [.int y2, .int y4, .int y6, .int y8]) (rest := []) ⟨hx, hb, hml, hown, hg⟩ (zs_i hI8 (k_X8_mustBe l g _ ad8 pe ct8 y2 y4 y6 y8 hI8)) (cwV 4 hg (z_gV mm_716 mm_717 mm_718 mm_108 mm_719) rfl rfl rfl (by decide +kernel) ⟨Nat.le_of_ble_eq_true rfl, Nat.le_of_ble_eq_true rfl⟩) ⟨(zA.pre [.ref (ad8 0), .int y2, .int y4, .int y6, .int y8] hPc hK hDc hN).1, va_recv hK hPc (ci := 8) (q0 := 0) rfl (zw_at (by omega) hs15), (zA.pre [.ref (ad8 0), .int y2, .int y4, .int y6, .int y8] hPc hK hDc hN).2⟩ rfl rfl hl.1 rfl (lv_room (Nat.le_of_ble_eq_true rfl)) dL_law_980 ⟨(show kq + 0 ≤ 600000 by omega), (show nq + 0 ≤ 7302250 by omega)⟩) hS (fun q _ h => hFc q h) hFc (fun r16 u17 t H1 locs ht hvm hr16 hB hz1 hk1 hS => ?_)
  obtain ⟨⟨ct18, hP1, hD1, hI8⟩, hzs⟩ := hB
  rw [ht] at hP1 hzs
  have hzl := hzs.eq hP1 hI8
  rw [← hzl] at hJ
  obtain ⟨hP, hD⟩ := z_two hP hD hk1 hFc hP1 hD1
  generalize H1 = H at hP hS ⊢
  refine W.widen (k := kq) (n := nq) (Nat.le_refl _) (Nat.le_refl _) ?_
  refine lv_pop hx hb dL_law_983 rfl ?_
  refine lv_aload_n hx hb dL_law_984 rfl (lv_at hl 2 rfl) ?_
  refine lv_aload_n hx hb dL_law_985 rfl (lv_at hl 0 rfl) ?_
  refine lv_iload_n hx hb dL_law_986 rfl (lv_at hl 3 rfl) ?_
  refine lv_iconst (v := 1) hx hb dL_law_987 (by decide) ?_
  refine lv_iadd hx hb dL_law_988 ?_
  refine lv_topi (fun x19 ex19 => ?_)
  obtain rfl : x1 = x19 := ex1.trans ex19.symm
  refine va_sld hx hb hX hbl hbA hS (z_in rfl (by omega) (by omega)) dL_law_989 ?_
  refine lv_topi (fun y20 ey20 => ?_)
  obtain rfl : y2 = y20 := ey2.trans ey20.symm
  refine lv_aload_n hx hb dL_law_990 rfl (lv_at hl 0 rfl) ?_
  refine lv_iload_n hx hb dL_law_991 rfl (lv_at hl 3 rfl) ?_
  refine lv_iconst (v := 2) hx hb dL_law_992 (by decide) ?_
  refine lv_iadd hx hb dL_law_993 ?_
  refine lv_topi (fun x21 ex21 => ?_)
  obtain rfl : x3 = x21 := ex3.trans ex21.symm
  refine va_sld hx hb hX hbl hbA hS (z_in rfl (by omega) (by omega)) dL_law_994 ?_
  refine lv_topi (fun y22 ey22 => ?_)
  obtain rfl : y4 = y22 := ey4.trans ey22.symm
  refine lv_aload_n hx hb dL_law_995 rfl (lv_at hl 0 rfl) ?_
  refine lv_iload_n hx hb dL_law_996 rfl (lv_at hl 3 rfl) ?_
  refine lv_iconst (v := 3) hx hb dL_law_997 (by decide) ?_
  refine lv_iadd hx hb dL_law_998 ?_
  refine lv_topi (fun x23 ex23 => ?_)
  obtain rfl : x5 = x23 := ex5.trans ex23.symm
  refine va_sld hx hb hX hbl hbA hS (z_in rfl (by omega) (by omega)) dL_law_999 ?_
  refine lv_topi (fun y24 ey24 => ?_)
  obtain rfl : y6 = y24 := ey6.trans ey24.symm
  refine lv_aload_n hx hb dL_law_1000 rfl (lv_at hl 0 rfl) ?_
  refine lv_iload_n hx hb dL_law_1001 rfl (lv_at hl 3 rfl) ?_
  refine lv_iconst (v := 4) hx hb dL_law_1002 (by decide) ?_
  refine lv_iadd hx hb dL_law_1003 ?_
  refine lv_topi (fun x25 ex25 => ?_)
  obtain rfl : x7 = x25 := ex7.trans ex25.symm
  refine va_sld hx hb hX hbl hbA hS (z_in rfl (by omega) (by omega)) dL_law_1004 ?_
  refine lv_topi (fun y26 ey26 => ?_)
  obtain rfl : y8 = y26 := ey8.trans ey26.symm
  have hjb := lwJ_b hJ
  have hPs := z_swapP hP
  have hDs := z_swapD hD
  have hPc := zP_l hPs
  have hDc := zD_l hDs
  have hFc := zw_free hDc hS hA
  obtain ⟨z28, z29, z30, z31, z32, z33, z34, z35, z36, z37, z38, z39, z40, z41, z42, q43, q44, q45, q46, q47, q48, q49, q50, q51, q52, q53, q54, q55, q56, q57, q58, q59, q60, q61, q62, hs63⟩ := a9_0 hI9.1
  refine va_calli (va_runV (As := [.int y2, .int y4, .int y6, .int y8]) (rest := []) ⟨hx, hb, hml, hown, hg⟩ (k_X9_mustBe l g _ ad9 me ct9 y2 y4 y6 y8 hI9) (cwV 4 hg (z_gV mm_1353 mm_1354 mm_1355 mm_117 mm_1356) rfl rfl rfl (by decide +kernel) ⟨Nat.le_of_ble_eq_true rfl, Nat.le_of_ble_eq_true rfl⟩) ⟨(zA.pre [.ref (ad9 0), .int y2, .int y4, .int y6, .int y8] hPc hK hDc hN).1, va_recv hK hPc (ci := 9) (q0 := 0) rfl (zw_at (by omega) hs63), (zA.pre [.ref (ad9 0), .int y2, .int y4, .int y6, .int y8] hPc hK hDc hN).2⟩ rfl rfl hl.1 rfl (lv_room (Nat.le_of_ble_eq_true rfl)) dL_law_1005 ⟨(show kq + 0 ≤ 600000 by omega), (show nq + 0 ≤ 7302250 by omega)⟩) hS (fun q _ h => hFc q h) hFc (fun r64 u65 t H1 locs ht hvm hr64 hB hz1 hk1 hS => ?_)
  obtain ⟨ct66, hP1, hD1, hI9⟩ := hB
  rw [ht] at hP1
  obtain ⟨hP, hD⟩ := z_two hPs hDs hk1 hFc hP1 hD1
  have hP := z_swapP hP
  have hD := z_swapD hD
  generalize H1 = H at hP hS ⊢
  refine W.widen (k := kq) (n := nq) (Nat.le_refl _) (Nat.le_refl _) ?_
  refine lv_pop hx hb dL_law_1008 rfl ?_
  refine lv_goto (tgt := 1531) hx hb dL_law_1009 (by decide) ?_
  exact kk ad8 ad9 ct18 ct66 pe me _ _ kq nq ls rfl rfl hP hD hS hI8 hI9 hT hJ (lv_sub hl [0, 1, 2, 3] rfl)

set_option maxHeartbeats 4000000 in
set_option maxRecDepth 100000 in
theorem op_giving {p : Program} {e : Env} {s : State} {m : MethodId} {below : List Frame} {meth : Method} {c : Code} (l : Launch) {b L : Nat} {xs : Nat → Int32} (C0 : lw_At p s m meth c b L xs) (g : zG) (hK : zK g s) (hN : zN s) {A : Nat → Prop} (hA : ∀ q, s.heap.size ≤ q → A q) (hA' : ∀ q, A q → s.heap.size ≤ q) (x0 m0 : Nat) (i : Int32) (hi : 0 ≤ i.toInt ∧ i.toInt ≤ 3066) (hiL : i.toInt + 5 < (L : Int)) (kk : ∀ (ad8b ad9b : Nat → Nat) (ct8b ct9b : Nat → va_E) (peb meb : Int32) (H : Heap) (locs : List Loc) (kq nq : Nat) (ls : Array Slot), ad8b 0 = x0 → ad9b 0 = m0 → zP g (zw 126 ad8b ct8b ++ zw 32 ad9b ct9b) H → va_D A (zw 126 ad8b ct8b ++ zw 32 ad9b ct9b) → va_S A s.heap H locs → Inv8 g ad8b peb ct8b → IR g ad9b meb ct9b → tieT ad8b ad9b → lwJ kq nq (zlen (ct8b 20)) → lv_has ls 4 [(0, .ref b), (1, .ref x0), (2, .ref m0), (3, .int i)] → W p l e room_1 s m #[Value.ref b] below meth c H locs kq nq (lw_Z below #[Value.ref b] s) (F0 m 1531 ls [])) (ad8 ad9 : Nat → Nat) (ct8 ct9 : Nat → va_E) (pe me : Int32) (H : Heap) (locs : List Loc) (kq nq : Nat) (ls : Array Slot) (hx0 : ad8 0 = x0) (hm0 : ad9 0 = m0) (hP : zP g (zw 126 ad8 ct8 ++ zw 32 ad9 ct9) H) (hD : va_D A (zw 126 ad8 ct8 ++ zw 32 ad9 ct9)) (hS : va_S A s.heap H locs) (hI8 : Inv8 g ad8 pe ct8) (hI9 : IR g ad9 me ct9) (hT : tieT ad8 ad9) (hJ : lwJ kq nq (zlen (ct8 20))) (hl : lv_has ls 4 [(0, .ref b), (1, .ref x0), (2, .ref m0), (3, .int i)]) : W p l e room_1 s m #[Value.ref b] below meth c H locs kq nq (lw_Z below #[Value.ref b] s) (F0 m 1012 ls []) := by
  obtain ⟨hx, hb, hr, hml, hown, hts, hX, hbl, hlocks, hgv⟩ := C0
  have hg : ∀ w ∈ zGW, w.before #[Value.ref b] s = true := fun w h => hts w (List.mem_filter.mp h).1
  have hown : s.vm.findClass RL = some m.cls := hown
  have hbA : ¬ A b := fun h => absurd (hA' b h) (Nat.not_le.mpr hbl)
  subst hx0
  subst hm0
  refine lv_aload_n hx hb dL_law_1012 rfl (lv_at hl 1 rfl) ?_
  refine lv_aload_n hx hb dL_law_1013 rfl (lv_at hl 0 rfl) ?_
  refine lv_iload_n hx hb dL_law_1014 rfl (lv_at hl 3 rfl) ?_
  refine lv_iconst (v := 1) hx hb dL_law_1015 (by decide) ?_
  refine lv_iadd hx hb dL_law_1016 ?_
  refine lv_topi (fun x1 ex1 => ?_)
  have tx1 : x1.toInt = i.toInt + 1 := by rw [ex1]; exact z_add rfl (by decide : (1 : Int32).toInt = 1) (by omega) (by omega)
  refine va_sld hx hb hX hbl hbA hS (z_in rfl (by omega) (by omega)) dL_law_1017 ?_
  refine lv_topi (fun y2 ey2 => ?_)
  refine lv_aload_n hx hb dL_law_1018 rfl (lv_at hl 0 rfl) ?_
  refine lv_iload_n hx hb dL_law_1019 rfl (lv_at hl 3 rfl) ?_
  refine lv_iconst (v := 2) hx hb dL_law_1020 (by decide) ?_
  refine lv_iadd hx hb dL_law_1021 ?_
  refine lv_topi (fun x3 ex3 => ?_)
  have tx3 : x3.toInt = i.toInt + 2 := by rw [ex3]; exact z_add rfl (by decide : (2 : Int32).toInt = 2) (by omega) (by omega)
  refine va_sld hx hb hX hbl hbA hS (z_in rfl (by omega) (by omega)) dL_law_1022 ?_
  refine lv_topi (fun y4 ey4 => ?_)
  refine lv_aload_n hx hb dL_law_1023 rfl (lv_at hl 0 rfl) ?_
  refine lv_iload_n hx hb dL_law_1024 rfl (lv_at hl 3 rfl) ?_
  refine lv_iconst (v := 3) hx hb dL_law_1025 (by decide) ?_
  refine lv_iadd hx hb dL_law_1026 ?_
  refine lv_topi (fun x5 ex5 => ?_)
  have tx5 : x5.toInt = i.toInt + 3 := by rw [ex5]; exact z_add rfl (by decide : (3 : Int32).toInt = 3) (by omega) (by omega)
  refine va_sld hx hb hX hbl hbA hS (z_in rfl (by omega) (by omega)) dL_law_1027 ?_
  refine lv_topi (fun y6 ey6 => ?_)
  have hjb := lwJ_b hJ
  have hPc := zP_l hP
  have hDc := zD_l hD
  have hFc := zw_free hDc hS hA
  obtain ⟨z8, z9, q10, q11, q12, hs13⟩ := a8_0 hI8
  refine va_calli (va_runV (As := [.int y2, .int y4, .int y6]) (rest := []) ⟨hx, hb, hml, hown, hg⟩ (zs_i hI8 (k_X8_giving l g _ ad8 pe ct8 y2 y4 y6 hI8)) (cwV 3 hg (z_gV mm_735 mm_736 mm_737 mm_108 mm_738) rfl rfl rfl (by decide +kernel) ⟨Nat.le_of_ble_eq_true rfl, Nat.le_of_ble_eq_true rfl⟩) ⟨(zA.pre [.ref (ad8 0), .int y2, .int y4, .int y6] hPc hK hDc hN).1, va_recv hK hPc (ci := 8) (q0 := 0) rfl (zw_at (by omega) hs13), (zA.pre [.ref (ad8 0), .int y2, .int y4, .int y6] hPc hK hDc hN).2⟩ rfl rfl hl.1 rfl (lv_room (Nat.le_of_ble_eq_true rfl)) dL_law_1028 ⟨(show kq + 0 ≤ 600000 by omega), (show nq + 0 ≤ 7302250 by omega)⟩) hS (fun q _ h => hFc q h) hFc (fun r14 u15 t H1 locs ht hvm hr14 hB hz1 hk1 hS => ?_)
  obtain ⟨⟨ct16, hP1, hD1, hI8⟩, hzs⟩ := hB
  rw [ht] at hP1 hzs
  have hzl := hzs.eq hP1 hI8
  rw [← hzl] at hJ
  obtain ⟨hP, hD⟩ := z_two hP hD hk1 hFc hP1 hD1
  generalize H1 = H at hP hS ⊢
  refine W.widen (k := kq) (n := nq) (Nat.le_refl _) (Nat.le_refl _) ?_
  refine lv_pop hx hb dL_law_1031 rfl ?_
  refine lv_aload_n hx hb dL_law_1032 rfl (lv_at hl 2 rfl) ?_
  refine lv_aload_n hx hb dL_law_1033 rfl (lv_at hl 0 rfl) ?_
  refine lv_iload_n hx hb dL_law_1034 rfl (lv_at hl 3 rfl) ?_
  refine lv_iconst (v := 1) hx hb dL_law_1035 (by decide) ?_
  refine lv_iadd hx hb dL_law_1036 ?_
  refine lv_topi (fun x17 ex17 => ?_)
  obtain rfl : x1 = x17 := ex1.trans ex17.symm
  refine va_sld hx hb hX hbl hbA hS (z_in rfl (by omega) (by omega)) dL_law_1037 ?_
  refine lv_topi (fun y18 ey18 => ?_)
  obtain rfl : y2 = y18 := ey2.trans ey18.symm
  refine lv_aload_n hx hb dL_law_1038 rfl (lv_at hl 0 rfl) ?_
  refine lv_iload_n hx hb dL_law_1039 rfl (lv_at hl 3 rfl) ?_
  refine lv_iconst (v := 2) hx hb dL_law_1040 (by decide) ?_
  refine lv_iadd hx hb dL_law_1041 ?_
  refine lv_topi (fun x19 ex19 => ?_)
  obtain rfl : x3 = x19 := ex3.trans ex19.symm
  refine va_sld hx hb hX hbl hbA hS (z_in rfl (by omega) (by omega)) dL_law_1042 ?_
  refine lv_topi (fun y20 ey20 => ?_)
  obtain rfl : y4 = y20 := ey4.trans ey20.symm
  refine lv_aload_n hx hb dL_law_1043 rfl (lv_at hl 0 rfl) ?_
  refine lv_iload_n hx hb dL_law_1044 rfl (lv_at hl 3 rfl) ?_
  refine lv_iconst (v := 3) hx hb dL_law_1045 (by decide) ?_
  refine lv_iadd hx hb dL_law_1046 ?_
  refine lv_topi (fun x21 ex21 => ?_)
  obtain rfl : x5 = x21 := ex5.trans ex21.symm
  refine va_sld hx hb hX hbl hbA hS (z_in rfl (by omega) (by omega)) dL_law_1047 ?_
  refine lv_topi (fun y22 ey22 => ?_)
  obtain rfl : y6 = y22 := ey6.trans ey22.symm
  have hjb := lwJ_b hJ
  have hPs := z_swapP hP
  have hDs := z_swapD hD
  have hPc := zP_l hPs
  have hDc := zD_l hDs
  have hFc := zw_free hDc hS hA
  obtain ⟨z24, z25, z26, z27, z28, z29, z30, z31, z32, z33, z34, z35, z36, z37, z38, q39, q40, q41, q42, q43, q44, q45, q46, q47, q48, q49, q50, q51, q52, q53, q54, q55, q56, q57, q58, hs59⟩ := a9_0 hI9.1
  refine va_calli (va_runV (As := [.int y2, .int y4, .int y6]) (rest := []) ⟨hx, hb, hml, hown, hg⟩ (k_X9_giving l g _ ad9 me ct9 y2 y4 y6 hI9) (cwV 3 hg (z_gV mm_1376 mm_1377 mm_1378 mm_117 mm_1379) rfl rfl rfl (by decide +kernel) ⟨Nat.le_of_ble_eq_true rfl, Nat.le_of_ble_eq_true rfl⟩) ⟨(zA.pre [.ref (ad9 0), .int y2, .int y4, .int y6] hPc hK hDc hN).1, va_recv hK hPc (ci := 9) (q0 := 0) rfl (zw_at (by omega) hs59), (zA.pre [.ref (ad9 0), .int y2, .int y4, .int y6] hPc hK hDc hN).2⟩ rfl rfl hl.1 rfl (lv_room (Nat.le_of_ble_eq_true rfl)) dL_law_1048 ⟨(show kq + 0 ≤ 600000 by omega), (show nq + 0 ≤ 7302250 by omega)⟩) hS (fun q _ h => hFc q h) hFc (fun r60 u61 t H1 locs ht hvm hr60 hB hz1 hk1 hS => ?_)
  obtain ⟨ct62, hP1, hD1, hI9, hk63, hk64⟩ := hB
  rw [ht] at hP1
  obtain ⟨hP, hD⟩ := z_two hPs hDs hk1 hFc hP1 hD1
  have hP := z_swapP hP
  have hD := z_swapD hD
  generalize H1 = H at hP hS ⊢
  refine W.widen (k := kq) (n := nq) (Nat.le_refl _) (Nat.le_refl _) ?_
  refine lv_pop hx hb dL_law_1051 rfl ?_
  refine lv_goto (tgt := 1531) hx hb dL_law_1052 (by decide) ?_
  exact kk ad8 ad9 ct16 ct62 pe me _ _ kq nq ls rfl rfl hP hD hS hI8 hI9 hT hJ (lv_sub hl [0, 1, 2, 3] rfl)

set_option maxHeartbeats 4000000 in
set_option maxRecDepth 100000 in
theorem op_tooFew {p : Program} {e : Env} {s : State} {m : MethodId} {below : List Frame} {meth : Method} {c : Code} (l : Launch) {b L : Nat} {xs : Nat → Int32} (C0 : lw_At p s m meth c b L xs) (g : zG) (hK : zK g s) (hN : zN s) {A : Nat → Prop} (hA : ∀ q, s.heap.size ≤ q → A q) (hA' : ∀ q, A q → s.heap.size ≤ q) (x0 m0 : Nat) (i : Int32) (hi : 0 ≤ i.toInt ∧ i.toInt ≤ 3066) (hiL : i.toInt + 5 < (L : Int)) (kk : ∀ (ad8b ad9b : Nat → Nat) (ct8b ct9b : Nat → va_E) (peb meb : Int32) (H : Heap) (locs : List Loc) (kq nq : Nat) (ls : Array Slot), ad8b 0 = x0 → ad9b 0 = m0 → zP g (zw 126 ad8b ct8b ++ zw 32 ad9b ct9b) H → va_D A (zw 126 ad8b ct8b ++ zw 32 ad9b ct9b) → va_S A s.heap H locs → Inv8 g ad8b peb ct8b → IR g ad9b meb ct9b → tieT ad8b ad9b → lwJ kq nq (zlen (ct8b 20)) → lv_has ls 4 [(0, .ref b), (1, .ref x0), (2, .ref m0), (3, .int i)] → W p l e room_1 s m #[Value.ref b] below meth c H locs kq nq (lw_Z below #[Value.ref b] s) (F0 m 1531 ls [])) (ad8 ad9 : Nat → Nat) (ct8 ct9 : Nat → va_E) (pe me : Int32) (H : Heap) (locs : List Loc) (kq nq : Nat) (ls : Array Slot) (hx0 : ad8 0 = x0) (hm0 : ad9 0 = m0) (hP : zP g (zw 126 ad8 ct8 ++ zw 32 ad9 ct9) H) (hD : va_D A (zw 126 ad8 ct8 ++ zw 32 ad9 ct9)) (hS : va_S A s.heap H locs) (hI8 : Inv8 g ad8 pe ct8) (hI9 : IR g ad9 me ct9) (hT : tieT ad8 ad9) (hJ : lwJ kq nq (zlen (ct8 20))) (hl : lv_has ls 4 [(0, .ref b), (1, .ref x0), (2, .ref m0), (3, .int i)]) : W p l e room_1 s m #[Value.ref b] below meth c H locs kq nq (lw_Z below #[Value.ref b] s) (F0 m 1055 ls []) := by
  obtain ⟨hx, hb, hr, hml, hown, hts, hX, hbl, hlocks, hgv⟩ := C0
  have hg : ∀ w ∈ zGW, w.before #[Value.ref b] s = true := fun w h => hts w (List.mem_filter.mp h).1
  have hown : s.vm.findClass RL = some m.cls := hown
  have hbA : ¬ A b := fun h => absurd (hA' b h) (Nat.not_le.mpr hbl)
  subst hx0
  subst hm0
  refine lv_aload_n hx hb dL_law_1055 rfl (lv_at hl 1 rfl) ?_
  refine lv_aload_n hx hb dL_law_1056 rfl (lv_at hl 0 rfl) ?_
  refine lv_iload_n hx hb dL_law_1057 rfl (lv_at hl 3 rfl) ?_
  refine lv_iconst (v := 1) hx hb dL_law_1058 (by decide) ?_
  refine lv_iadd hx hb dL_law_1059 ?_
  refine lv_topi (fun x1 ex1 => ?_)
  have tx1 : x1.toInt = i.toInt + 1 := by rw [ex1]; exact z_add rfl (by decide : (1 : Int32).toInt = 1) (by omega) (by omega)
  refine va_sld hx hb hX hbl hbA hS (z_in rfl (by omega) (by omega)) dL_law_1060 ?_
  refine lv_topi (fun y2 ey2 => ?_)
  refine lv_aload_n hx hb dL_law_1061 rfl (lv_at hl 0 rfl) ?_
  refine lv_iload_n hx hb dL_law_1062 rfl (lv_at hl 3 rfl) ?_
  refine lv_iconst (v := 2) hx hb dL_law_1063 (by decide) ?_
  refine lv_iadd hx hb dL_law_1064 ?_
  refine lv_topi (fun x3 ex3 => ?_)
  have tx3 : x3.toInt = i.toInt + 2 := by rw [ex3]; exact z_add rfl (by decide : (2 : Int32).toInt = 2) (by omega) (by omega)
  refine va_sld hx hb hX hbl hbA hS (z_in rfl (by omega) (by omega)) dL_law_1065 ?_
  refine lv_topi (fun y4 ey4 => ?_)
  have hjb := lwJ_b hJ
  have hPc := zP_l hP
  have hDc := zD_l hD
  have hFc := zw_free hDc hS hA
  obtain ⟨z6, z7, q8, q9, q10, hs11⟩ := a8_0 hI8
  refine va_calli (va_runV (As := [.int y2, .int y4]) (rest := []) ⟨hx, hb, hml, hown, hg⟩ (zs_i hI8 (k_X8_tooFew l g _ ad8 pe ct8 y2 y4 hI8)) (cwV 2 hg (z_gV mm_747 mm_748 mm_749 mm_108 mm_750) rfl rfl rfl (by decide +kernel) ⟨Nat.le_of_ble_eq_true rfl, Nat.le_of_ble_eq_true rfl⟩) ⟨(zA.pre [.ref (ad8 0), .int y2, .int y4] hPc hK hDc hN).1, va_recv hK hPc (ci := 8) (q0 := 0) rfl (zw_at (by omega) hs11), (zA.pre [.ref (ad8 0), .int y2, .int y4] hPc hK hDc hN).2⟩ rfl rfl hl.1 rfl (lv_room (Nat.le_of_ble_eq_true rfl)) dL_law_1066 ⟨(show kq + 0 ≤ 600000 by omega), (show nq + 0 ≤ 7302250 by omega)⟩) hS (fun q _ h => hFc q h) hFc (fun r12 u13 t H1 locs ht hvm hr12 hB hz1 hk1 hS => ?_)
  obtain ⟨⟨ct14, hP1, hD1, hI8⟩, hzs⟩ := hB
  rw [ht] at hP1 hzs
  have hzl := hzs.eq hP1 hI8
  rw [← hzl] at hJ
  obtain ⟨hP, hD⟩ := z_two hP hD hk1 hFc hP1 hD1
  generalize H1 = H at hP hS ⊢
  refine W.widen (k := kq) (n := nq) (Nat.le_refl _) (Nat.le_refl _) ?_
  refine lv_pop hx hb dL_law_1069 rfl ?_
  refine lv_aload_n hx hb dL_law_1070 rfl (lv_at hl 2 rfl) ?_
  refine lv_aload_n hx hb dL_law_1071 rfl (lv_at hl 0 rfl) ?_
  refine lv_iload_n hx hb dL_law_1072 rfl (lv_at hl 3 rfl) ?_
  refine lv_iconst (v := 1) hx hb dL_law_1073 (by decide) ?_
  refine lv_iadd hx hb dL_law_1074 ?_
  refine lv_topi (fun x15 ex15 => ?_)
  obtain rfl : x1 = x15 := ex1.trans ex15.symm
  refine va_sld hx hb hX hbl hbA hS (z_in rfl (by omega) (by omega)) dL_law_1075 ?_
  refine lv_topi (fun y16 ey16 => ?_)
  obtain rfl : y2 = y16 := ey2.trans ey16.symm
  refine lv_aload_n hx hb dL_law_1076 rfl (lv_at hl 0 rfl) ?_
  refine lv_iload_n hx hb dL_law_1077 rfl (lv_at hl 3 rfl) ?_
  refine lv_iconst (v := 2) hx hb dL_law_1078 (by decide) ?_
  refine lv_iadd hx hb dL_law_1079 ?_
  refine lv_topi (fun x17 ex17 => ?_)
  obtain rfl : x3 = x17 := ex3.trans ex17.symm
  refine va_sld hx hb hX hbl hbA hS (z_in rfl (by omega) (by omega)) dL_law_1080 ?_
  refine lv_topi (fun y18 ey18 => ?_)
  obtain rfl : y4 = y18 := ey4.trans ey18.symm
  have hjb := lwJ_b hJ
  have hPs := z_swapP hP
  have hDs := z_swapD hD
  have hPc := zP_l hPs
  have hDc := zD_l hDs
  have hFc := zw_free hDc hS hA
  obtain ⟨z20, z21, z22, z23, z24, z25, z26, z27, z28, z29, z30, z31, z32, z33, z34, q35, q36, q37, q38, q39, q40, q41, q42, q43, q44, q45, q46, q47, q48, q49, q50, q51, q52, q53, q54, hs55⟩ := a9_0 hI9.1
  refine va_calli (va_runV (As := [.int y2, .int y4]) (rest := []) ⟨hx, hb, hml, hown, hg⟩ (k_X9_tooFew l g _ ad9 me ct9 y2 y4 hI9) (cwV 2 hg (z_gV mm_1380 mm_1381 mm_1382 mm_117 mm_1383) rfl rfl rfl (by decide +kernel) ⟨Nat.le_of_ble_eq_true rfl, Nat.le_of_ble_eq_true rfl⟩) ⟨(zA.pre [.ref (ad9 0), .int y2, .int y4] hPc hK hDc hN).1, va_recv hK hPc (ci := 9) (q0 := 0) rfl (zw_at (by omega) hs55), (zA.pre [.ref (ad9 0), .int y2, .int y4] hPc hK hDc hN).2⟩ rfl rfl hl.1 rfl (lv_room (Nat.le_of_ble_eq_true rfl)) dL_law_1081 ⟨(show kq + 0 ≤ 600000 by omega), (show nq + 0 ≤ 7302250 by omega)⟩) hS (fun q _ h => hFc q h) hFc (fun r56 u57 t H1 locs ht hvm hr56 hB hz1 hk1 hS => ?_)
  obtain ⟨ct58, hP1, hD1, hI9⟩ := hB
  rw [ht] at hP1
  obtain ⟨hP, hD⟩ := z_two hPs hDs hk1 hFc hP1 hD1
  have hP := z_swapP hP
  have hD := z_swapD hD
  generalize H1 = H at hP hS ⊢
  refine W.widen (k := kq) (n := nq) (Nat.le_refl _) (Nat.le_refl _) ?_
  refine lv_pop hx hb dL_law_1084 rfl ?_
  refine lv_goto (tgt := 1531) hx hb dL_law_1085 (by decide) ?_
  exact kk ad8 ad9 ct14 ct58 pe me _ _ kq nq ls rfl rfl hP hD hS hI8 hI9 hT hJ (lv_sub hl [0, 1, 2, 3] rfl)

set_option maxHeartbeats 4000000 in
set_option maxRecDepth 100000 in
theorem op_steps {p : Program} {e : Env} {s : State} {m : MethodId} {below : List Frame} {meth : Method} {c : Code} (l : Launch) {b L : Nat} {xs : Nat → Int32} (C0 : lw_At p s m meth c b L xs) (g : zG) (hK : zK g s) (hN : zN s) {A : Nat → Prop} (hA : ∀ q, s.heap.size ≤ q → A q) (hA' : ∀ q, A q → s.heap.size ≤ q) (x0 m0 : Nat) (i : Int32) (hi : 0 ≤ i.toInt ∧ i.toInt ≤ 3066) (hiL : i.toInt + 5 < (L : Int)) (kk : ∀ (ad8b ad9b : Nat → Nat) (ct8b ct9b : Nat → va_E) (peb meb : Int32) (H : Heap) (locs : List Loc) (kq nq : Nat) (ls : Array Slot), ad8b 0 = x0 → ad9b 0 = m0 → zP g (zw 126 ad8b ct8b ++ zw 32 ad9b ct9b) H → va_D A (zw 126 ad8b ct8b ++ zw 32 ad9b ct9b) → va_S A s.heap H locs → Inv8 g ad8b peb ct8b → IR g ad9b meb ct9b → tieT ad8b ad9b → lwJ kq nq (zlen (ct8b 20)) → lv_has ls 4 [(0, .ref b), (1, .ref x0), (2, .ref m0), (3, .int i)] → W p l e room_1 s m #[Value.ref b] below meth c H locs kq nq (lw_Z below #[Value.ref b] s) (F0 m 1531 ls [])) (ad8 ad9 : Nat → Nat) (ct8 ct9 : Nat → va_E) (pe me : Int32) (H : Heap) (locs : List Loc) (kq nq : Nat) (ls : Array Slot) (hx0 : ad8 0 = x0) (hm0 : ad9 0 = m0) (hP : zP g (zw 126 ad8 ct8 ++ zw 32 ad9 ct9) H) (hD : va_D A (zw 126 ad8 ct8 ++ zw 32 ad9 ct9)) (hS : va_S A s.heap H locs) (hI8 : Inv8 g ad8 pe ct8) (hI9 : IR g ad9 me ct9) (hT : tieT ad8 ad9) (hJ : lwJ kq nq (zlen (ct8 20))) (hl : lv_has ls 4 [(0, .ref b), (1, .ref x0), (2, .ref m0), (3, .int i)]) : W p l e room_1 s m #[Value.ref b] below meth c H locs kq nq (lw_Z below #[Value.ref b] s) (F0 m 1088 ls []) := by
  obtain ⟨hx, hb, hr, hml, hown, hts, hX, hbl, hlocks, hgv⟩ := C0
  have hg : ∀ w ∈ zGW, w.before #[Value.ref b] s = true := fun w h => hts w (List.mem_filter.mp h).1
  have hown : s.vm.findClass RL = some m.cls := hown
  have hbA : ¬ A b := fun h => absurd (hA' b h) (Nat.not_le.mpr hbl)
  subst hx0
  subst hm0
  refine lv_aload_n hx hb dL_law_1088 rfl (lv_at hl 1 rfl) ?_
  refine lv_aload_n hx hb dL_law_1089 rfl (lv_at hl 0 rfl) ?_
  refine lv_iload_n hx hb dL_law_1090 rfl (lv_at hl 3 rfl) ?_
  refine lv_iconst (v := 1) hx hb dL_law_1091 (by decide) ?_
  refine lv_iadd hx hb dL_law_1092 ?_
  refine lv_topi (fun x1 ex1 => ?_)
  have tx1 : x1.toInt = i.toInt + 1 := by rw [ex1]; exact z_add rfl (by decide : (1 : Int32).toInt = 1) (by omega) (by omega)
  refine va_sld hx hb hX hbl hbA hS (z_in rfl (by omega) (by omega)) dL_law_1093 ?_
  refine lv_topi (fun y2 ey2 => ?_)
  refine lv_aload_n hx hb dL_law_1094 rfl (lv_at hl 0 rfl) ?_
  refine lv_iload_n hx hb dL_law_1095 rfl (lv_at hl 3 rfl) ?_
  refine lv_iconst (v := 2) hx hb dL_law_1096 (by decide) ?_
  refine lv_iadd hx hb dL_law_1097 ?_
  refine lv_topi (fun x3 ex3 => ?_)
  have tx3 : x3.toInt = i.toInt + 2 := by rw [ex3]; exact z_add rfl (by decide : (2 : Int32).toInt = 2) (by omega) (by omega)
  refine va_sld hx hb hX hbl hbA hS (z_in rfl (by omega) (by omega)) dL_law_1098 ?_
  refine lv_topi (fun y4 ey4 => ?_)
  refine lv_aload_n hx hb dL_law_1099 rfl (lv_at hl 0 rfl) ?_
  refine lv_iload_n hx hb dL_law_1100 rfl (lv_at hl 3 rfl) ?_
  refine lv_iconst (v := 3) hx hb dL_law_1101 (by decide) ?_
  refine lv_iadd hx hb dL_law_1102 ?_
  refine lv_topi (fun x5 ex5 => ?_)
  have tx5 : x5.toInt = i.toInt + 3 := by rw [ex5]; exact z_add rfl (by decide : (3 : Int32).toInt = 3) (by omega) (by omega)
  refine va_sld hx hb hX hbl hbA hS (z_in rfl (by omega) (by omega)) dL_law_1103 ?_
  refine lv_topi (fun y6 ey6 => ?_)
  have hjb := lwJ_b hJ
  have hPc := zP_l hP
  have hDc := zD_l hD
  have hFc := zw_free hDc hS hA
  obtain ⟨z8, z9, q10, q11, q12, hs13⟩ := a8_0 hI8
  refine va_calli (va_runV (As := [.int y2, .int y4, .int y6]) (rest := []) ⟨hx, hb, hml, hown, hg⟩ (zs_i hI8 (k_X8_steps l g _ ad8 pe ct8 y2 y4 y6 hI8)) (cwV 3 hg (z_gV mm_751 mm_752 mm_753 mm_108 mm_754) rfl rfl rfl (by decide +kernel) ⟨Nat.le_of_ble_eq_true rfl, Nat.le_of_ble_eq_true rfl⟩) ⟨(zA.pre [.ref (ad8 0), .int y2, .int y4, .int y6] hPc hK hDc hN).1, va_recv hK hPc (ci := 8) (q0 := 0) rfl (zw_at (by omega) hs13), (zA.pre [.ref (ad8 0), .int y2, .int y4, .int y6] hPc hK hDc hN).2⟩ rfl rfl hl.1 rfl (lv_room (Nat.le_of_ble_eq_true rfl)) dL_law_1104 ⟨(show kq + 0 ≤ 600000 by omega), (show nq + 0 ≤ 7302250 by omega)⟩) hS (fun q _ h => hFc q h) hFc (fun r14 u15 t H1 locs ht hvm hr14 hB hz1 hk1 hS => ?_)
  obtain ⟨⟨ct16, hP1, hD1, hI8⟩, hzs⟩ := hB
  rw [ht] at hP1 hzs
  have hzl := hzs.eq hP1 hI8
  rw [← hzl] at hJ
  obtain ⟨hP, hD⟩ := z_two hP hD hk1 hFc hP1 hD1
  generalize H1 = H at hP hS ⊢
  refine W.widen (k := kq) (n := nq) (Nat.le_refl _) (Nat.le_refl _) ?_
  refine lv_pop hx hb dL_law_1107 rfl ?_
  refine lv_aload_n hx hb dL_law_1108 rfl (lv_at hl 2 rfl) ?_
  refine lv_aload_n hx hb dL_law_1109 rfl (lv_at hl 0 rfl) ?_
  refine lv_iload_n hx hb dL_law_1110 rfl (lv_at hl 3 rfl) ?_
  refine lv_iconst (v := 1) hx hb dL_law_1111 (by decide) ?_
  refine lv_iadd hx hb dL_law_1112 ?_
  refine lv_topi (fun x17 ex17 => ?_)
  obtain rfl : x1 = x17 := ex1.trans ex17.symm
  refine va_sld hx hb hX hbl hbA hS (z_in rfl (by omega) (by omega)) dL_law_1113 ?_
  refine lv_topi (fun y18 ey18 => ?_)
  obtain rfl : y2 = y18 := ey2.trans ey18.symm
  refine lv_aload_n hx hb dL_law_1114 rfl (lv_at hl 0 rfl) ?_
  refine lv_iload_n hx hb dL_law_1115 rfl (lv_at hl 3 rfl) ?_
  refine lv_iconst (v := 2) hx hb dL_law_1116 (by decide) ?_
  refine lv_iadd hx hb dL_law_1117 ?_
  refine lv_topi (fun x19 ex19 => ?_)
  obtain rfl : x3 = x19 := ex3.trans ex19.symm
  refine va_sld hx hb hX hbl hbA hS (z_in rfl (by omega) (by omega)) dL_law_1118 ?_
  refine lv_topi (fun y20 ey20 => ?_)
  obtain rfl : y4 = y20 := ey4.trans ey20.symm
  refine lv_aload_n hx hb dL_law_1119 rfl (lv_at hl 0 rfl) ?_
  refine lv_iload_n hx hb dL_law_1120 rfl (lv_at hl 3 rfl) ?_
  refine lv_iconst (v := 3) hx hb dL_law_1121 (by decide) ?_
  refine lv_iadd hx hb dL_law_1122 ?_
  refine lv_topi (fun x21 ex21 => ?_)
  obtain rfl : x5 = x21 := ex5.trans ex21.symm
  refine va_sld hx hb hX hbl hbA hS (z_in rfl (by omega) (by omega)) dL_law_1123 ?_
  refine lv_topi (fun y22 ey22 => ?_)
  obtain rfl : y6 = y22 := ey6.trans ey22.symm
  have hjb := lwJ_b hJ
  have hPs := z_swapP hP
  have hDs := z_swapD hD
  have hPc := zP_l hPs
  have hDc := zD_l hDs
  have hFc := zw_free hDc hS hA
  obtain ⟨z24, z25, z26, z27, z28, z29, z30, z31, z32, z33, z34, z35, z36, z37, z38, q39, q40, q41, q42, q43, q44, q45, q46, q47, q48, q49, q50, q51, q52, q53, q54, q55, q56, q57, q58, hs59⟩ := a9_0 hI9.1
  refine va_calli (va_runV (As := [.int y2, .int y4, .int y6]) (rest := []) ⟨hx, hb, hml, hown, hg⟩ (k_X9_steps l g _ ad9 me ct9 y2 y4 y6 hI9) (cwV 3 hg (z_gV mm_1384 mm_1385 mm_1386 mm_117 mm_1387) rfl rfl rfl (by decide +kernel) ⟨Nat.le_of_ble_eq_true rfl, Nat.le_of_ble_eq_true rfl⟩) ⟨(zA.pre [.ref (ad9 0), .int y2, .int y4, .int y6] hPc hK hDc hN).1, va_recv hK hPc (ci := 9) (q0 := 0) rfl (zw_at (by omega) hs59), (zA.pre [.ref (ad9 0), .int y2, .int y4, .int y6] hPc hK hDc hN).2⟩ rfl rfl hl.1 rfl (lv_room (Nat.le_of_ble_eq_true rfl)) dL_law_1124 ⟨(show kq + 0 ≤ 600000 by omega), (show nq + 0 ≤ 7302250 by omega)⟩) hS (fun q _ h => hFc q h) hFc (fun r60 u61 t H1 locs ht hvm hr60 hB hz1 hk1 hS => ?_)
  obtain ⟨ct62, hP1, hD1, hI9⟩ := hB
  rw [ht] at hP1
  obtain ⟨hP, hD⟩ := z_two hPs hDs hk1 hFc hP1 hD1
  have hP := z_swapP hP
  have hD := z_swapD hD
  generalize H1 = H at hP hS ⊢
  refine W.widen (k := kq) (n := nq) (Nat.le_refl _) (Nat.le_refl _) ?_
  refine lv_pop hx hb dL_law_1127 rfl ?_
  refine lv_goto (tgt := 1531) hx hb dL_law_1128 (by decide) ?_
  exact kk ad8 ad9 ct16 ct62 pe me _ _ kq nq ls rfl rfl hP hD hS hI8 hI9 hT hJ (lv_sub hl [0, 1, 2, 3] rfl)

set_option maxHeartbeats 4000000 in
set_option maxRecDepth 100000 in
theorem op_safe {p : Program} {e : Env} {s : State} {m : MethodId} {below : List Frame} {meth : Method} {c : Code} (l : Launch) {b L : Nat} {xs : Nat → Int32} (C0 : lw_At p s m meth c b L xs) (g : zG) (hK : zK g s) (hN : zN s) {A : Nat → Prop} (hA : ∀ q, s.heap.size ≤ q → A q) (hA' : ∀ q, A q → s.heap.size ≤ q) (x0 m0 : Nat) (i : Int32) (hi : 0 ≤ i.toInt ∧ i.toInt ≤ 3066) (hiL : i.toInt + 5 < (L : Int)) (kk : ∀ (ad8b ad9b : Nat → Nat) (ct8b ct9b : Nat → va_E) (peb meb : Int32) (H : Heap) (locs : List Loc) (kq nq : Nat) (ls : Array Slot), ad8b 0 = x0 → ad9b 0 = m0 → zP g (zw 126 ad8b ct8b ++ zw 32 ad9b ct9b) H → va_D A (zw 126 ad8b ct8b ++ zw 32 ad9b ct9b) → va_S A s.heap H locs → Inv8 g ad8b peb ct8b → IR g ad9b meb ct9b → tieT ad8b ad9b → lwJ kq nq (zlen (ct8b 20)) → lv_has ls 4 [(0, .ref b), (1, .ref x0), (2, .ref m0), (3, .int i)] → W p l e room_1 s m #[Value.ref b] below meth c H locs kq nq (lw_Z below #[Value.ref b] s) (F0 m 1531 ls [])) (ad8 ad9 : Nat → Nat) (ct8 ct9 : Nat → va_E) (pe me : Int32) (H : Heap) (locs : List Loc) (kq nq : Nat) (ls : Array Slot) (hx0 : ad8 0 = x0) (hm0 : ad9 0 = m0) (hP : zP g (zw 126 ad8 ct8 ++ zw 32 ad9 ct9) H) (hD : va_D A (zw 126 ad8 ct8 ++ zw 32 ad9 ct9)) (hS : va_S A s.heap H locs) (hI8 : Inv8 g ad8 pe ct8) (hI9 : IR g ad9 me ct9) (hT : tieT ad8 ad9) (hJ : lwJ kq nq (zlen (ct8 20))) (hl : lv_has ls 4 [(0, .ref b), (1, .ref x0), (2, .ref m0), (3, .int i)]) : W p l e room_1 s m #[Value.ref b] below meth c H locs kq nq (lw_Z below #[Value.ref b] s) (F0 m 1131 ls []) := by
  obtain ⟨hx, hb, hr, hml, hown, hts, hX, hbl, hlocks, hgv⟩ := C0
  have hg : ∀ w ∈ zGW, w.before #[Value.ref b] s = true := fun w h => hts w (List.mem_filter.mp h).1
  have hown : s.vm.findClass RL = some m.cls := hown
  have hbA : ¬ A b := fun h => absurd (hA' b h) (Nat.not_le.mpr hbl)
  subst hx0
  subst hm0
  refine lv_aload_n hx hb dL_law_1131 rfl (lv_at hl 1 rfl) ?_
  refine lv_aload_n hx hb dL_law_1132 rfl (lv_at hl 0 rfl) ?_
  refine lv_iload_n hx hb dL_law_1133 rfl (lv_at hl 3 rfl) ?_
  refine lv_iconst (v := 1) hx hb dL_law_1134 (by decide) ?_
  refine lv_iadd hx hb dL_law_1135 ?_
  refine lv_topi (fun x1 ex1 => ?_)
  have tx1 : x1.toInt = i.toInt + 1 := by rw [ex1]; exact z_add rfl (by decide : (1 : Int32).toInt = 1) (by omega) (by omega)
  refine va_sld hx hb hX hbl hbA hS (z_in rfl (by omega) (by omega)) dL_law_1136 ?_
  refine lv_topi (fun y2 ey2 => ?_)
  refine lv_aload_n hx hb dL_law_1137 rfl (lv_at hl 0 rfl) ?_
  refine lv_iload_n hx hb dL_law_1138 rfl (lv_at hl 3 rfl) ?_
  refine lv_iconst (v := 2) hx hb dL_law_1139 (by decide) ?_
  refine lv_iadd hx hb dL_law_1140 ?_
  refine lv_topi (fun x3 ex3 => ?_)
  have tx3 : x3.toInt = i.toInt + 2 := by rw [ex3]; exact z_add rfl (by decide : (2 : Int32).toInt = 2) (by omega) (by omega)
  refine va_sld hx hb hX hbl hbA hS (z_in rfl (by omega) (by omega)) dL_law_1141 ?_
  refine lv_topi (fun y4 ey4 => ?_)
  refine lv_aload_n hx hb dL_law_1142 rfl (lv_at hl 0 rfl) ?_
  refine lv_iload_n hx hb dL_law_1143 rfl (lv_at hl 3 rfl) ?_
  refine lv_iconst (v := 3) hx hb dL_law_1144 (by decide) ?_
  refine lv_iadd hx hb dL_law_1145 ?_
  refine lv_topi (fun x5 ex5 => ?_)
  have tx5 : x5.toInt = i.toInt + 3 := by rw [ex5]; exact z_add rfl (by decide : (3 : Int32).toInt = 3) (by omega) (by omega)
  refine va_sld hx hb hX hbl hbA hS (z_in rfl (by omega) (by omega)) dL_law_1146 ?_
  refine lv_topi (fun y6 ey6 => ?_)
  have hjb := lwJ_b hJ
  have hPc := zP_l hP
  have hDc := zD_l hD
  have hFc := zw_free hDc hS hA
  obtain ⟨z8, z9, q10, q11, q12, hs13⟩ := a8_0 hI8
  refine va_calli (va_runV (As := [.int y2, .int y4, .int y6]) (rest := []) ⟨hx, hb, hml, hown, hg⟩ (zs_i hI8 (k_X8_safe l g _ ad8 pe ct8 y2 y4 y6 hI8)) (cwV 3 hg (z_gV mm_768 mm_769 mm_770 mm_108 mm_771) rfl rfl rfl (by decide +kernel) ⟨Nat.le_of_ble_eq_true rfl, Nat.le_of_ble_eq_true rfl⟩) ⟨(zA.pre [.ref (ad8 0), .int y2, .int y4, .int y6] hPc hK hDc hN).1, va_recv hK hPc (ci := 8) (q0 := 0) rfl (zw_at (by omega) hs13), (zA.pre [.ref (ad8 0), .int y2, .int y4, .int y6] hPc hK hDc hN).2⟩ rfl rfl hl.1 rfl (lv_room (Nat.le_of_ble_eq_true rfl)) dL_law_1147 ⟨(show kq + 0 ≤ 600000 by omega), (show nq + 0 ≤ 7302250 by omega)⟩) hS (fun q _ h => hFc q h) hFc (fun r14 u15 t H1 locs ht hvm hr14 hB hz1 hk1 hS => ?_)
  obtain ⟨⟨ct16, hP1, hD1, hI8⟩, hzs⟩ := hB
  rw [ht] at hP1 hzs
  have hzl := hzs.eq hP1 hI8
  rw [← hzl] at hJ
  obtain ⟨hP, hD⟩ := z_two hP hD hk1 hFc hP1 hD1
  generalize H1 = H at hP hS ⊢
  refine W.widen (k := kq) (n := nq) (Nat.le_refl _) (Nat.le_refl _) ?_
  refine lv_pop hx hb dL_law_1150 rfl ?_
  refine lv_aload_n hx hb dL_law_1151 rfl (lv_at hl 2 rfl) ?_
  refine lv_aload_n hx hb dL_law_1152 rfl (lv_at hl 0 rfl) ?_
  refine lv_iload_n hx hb dL_law_1153 rfl (lv_at hl 3 rfl) ?_
  refine lv_iconst (v := 1) hx hb dL_law_1154 (by decide) ?_
  refine lv_iadd hx hb dL_law_1155 ?_
  refine lv_topi (fun x17 ex17 => ?_)
  obtain rfl : x1 = x17 := ex1.trans ex17.symm
  refine va_sld hx hb hX hbl hbA hS (z_in rfl (by omega) (by omega)) dL_law_1156 ?_
  refine lv_topi (fun y18 ey18 => ?_)
  obtain rfl : y2 = y18 := ey2.trans ey18.symm
  refine lv_aload_n hx hb dL_law_1157 rfl (lv_at hl 0 rfl) ?_
  refine lv_iload_n hx hb dL_law_1158 rfl (lv_at hl 3 rfl) ?_
  refine lv_iconst (v := 2) hx hb dL_law_1159 (by decide) ?_
  refine lv_iadd hx hb dL_law_1160 ?_
  refine lv_topi (fun x19 ex19 => ?_)
  obtain rfl : x3 = x19 := ex3.trans ex19.symm
  refine va_sld hx hb hX hbl hbA hS (z_in rfl (by omega) (by omega)) dL_law_1161 ?_
  refine lv_topi (fun y20 ey20 => ?_)
  obtain rfl : y4 = y20 := ey4.trans ey20.symm
  refine lv_aload_n hx hb dL_law_1162 rfl (lv_at hl 0 rfl) ?_
  refine lv_iload_n hx hb dL_law_1163 rfl (lv_at hl 3 rfl) ?_
  refine lv_iconst (v := 3) hx hb dL_law_1164 (by decide) ?_
  refine lv_iadd hx hb dL_law_1165 ?_
  refine lv_topi (fun x21 ex21 => ?_)
  obtain rfl : x5 = x21 := ex5.trans ex21.symm
  refine va_sld hx hb hX hbl hbA hS (z_in rfl (by omega) (by omega)) dL_law_1166 ?_
  refine lv_topi (fun y22 ey22 => ?_)
  obtain rfl : y6 = y22 := ey6.trans ey22.symm
  have hjb := lwJ_b hJ
  have hPs := z_swapP hP
  have hDs := z_swapD hD
  have hPc := zP_l hPs
  have hDc := zD_l hDs
  have hFc := zw_free hDc hS hA
  obtain ⟨z24, z25, z26, z27, z28, z29, z30, z31, z32, z33, z34, z35, z36, z37, z38, q39, q40, q41, q42, q43, q44, q45, q46, q47, q48, q49, q50, q51, q52, q53, q54, q55, q56, q57, q58, hs59⟩ := a9_0 hI9.1
  refine va_calli (va_runV (As := [.int y2, .int y4, .int y6]) (rest := []) ⟨hx, hb, hml, hown, hg⟩ (k_X9_safe l g _ ad9 me ct9 y2 y4 y6 hI9) (cwV 3 hg (z_gV mm_1400 mm_1401 mm_1402 mm_117 mm_1403) rfl rfl rfl (by decide +kernel) ⟨Nat.le_of_ble_eq_true rfl, Nat.le_of_ble_eq_true rfl⟩) ⟨(zA.pre [.ref (ad9 0), .int y2, .int y4, .int y6] hPc hK hDc hN).1, va_recv hK hPc (ci := 9) (q0 := 0) rfl (zw_at (by omega) hs59), (zA.pre [.ref (ad9 0), .int y2, .int y4, .int y6] hPc hK hDc hN).2⟩ rfl rfl hl.1 rfl (lv_room (Nat.le_of_ble_eq_true rfl)) dL_law_1167 ⟨(show kq + 0 ≤ 600000 by omega), (show nq + 0 ≤ 7302250 by omega)⟩) hS (fun q _ h => hFc q h) hFc (fun r60 u61 t H1 locs ht hvm hr60 hB hz1 hk1 hS => ?_)
  obtain ⟨ct62, hP1, hD1, hI9⟩ := hB
  rw [ht] at hP1
  obtain ⟨hP, hD⟩ := z_two hPs hDs hk1 hFc hP1 hD1
  have hP := z_swapP hP
  have hD := z_swapD hD
  generalize H1 = H at hP hS ⊢
  refine W.widen (k := kq) (n := nq) (Nat.le_refl _) (Nat.le_refl _) ?_
  refine lv_pop hx hb dL_law_1170 rfl ?_
  refine lv_goto (tgt := 1531) hx hb dL_law_1171 (by decide) ?_
  exact kk ad8 ad9 ct16 ct62 pe me _ _ kq nq ls rfl rfl hP hD hS hI8 hI9 hT hJ (lv_sub hl [0, 1, 2, 3] rfl)

set_option maxHeartbeats 4000000 in
set_option maxRecDepth 100000 in
theorem op_fewest {p : Program} {e : Env} {s : State} {m : MethodId} {below : List Frame} {meth : Method} {c : Code} (l : Launch) {b L : Nat} {xs : Nat → Int32} (C0 : lw_At p s m meth c b L xs) (g : zG) (hK : zK g s) (hN : zN s) {A : Nat → Prop} (hA : ∀ q, s.heap.size ≤ q → A q) (hA' : ∀ q, A q → s.heap.size ≤ q) (x0 m0 : Nat) (i : Int32) (hi : 0 ≤ i.toInt ∧ i.toInt ≤ 3066) (hiL : i.toInt + 5 < (L : Int)) (kk : ∀ (ad8b ad9b : Nat → Nat) (ct8b ct9b : Nat → va_E) (peb meb : Int32) (H : Heap) (locs : List Loc) (kq nq : Nat) (ls : Array Slot), ad8b 0 = x0 → ad9b 0 = m0 → zP g (zw 126 ad8b ct8b ++ zw 32 ad9b ct9b) H → va_D A (zw 126 ad8b ct8b ++ zw 32 ad9b ct9b) → va_S A s.heap H locs → Inv8 g ad8b peb ct8b → IR g ad9b meb ct9b → tieT ad8b ad9b → lwJ kq nq (zlen (ct8b 20)) → lv_has ls 4 [(0, .ref b), (1, .ref x0), (2, .ref m0), (3, .int i)] → W p l e room_1 s m #[Value.ref b] below meth c H locs kq nq (lw_Z below #[Value.ref b] s) (F0 m 1531 ls [])) (ad8 ad9 : Nat → Nat) (ct8 ct9 : Nat → va_E) (pe me : Int32) (H : Heap) (locs : List Loc) (kq nq : Nat) (ls : Array Slot) (hx0 : ad8 0 = x0) (hm0 : ad9 0 = m0) (hP : zP g (zw 126 ad8 ct8 ++ zw 32 ad9 ct9) H) (hD : va_D A (zw 126 ad8 ct8 ++ zw 32 ad9 ct9)) (hS : va_S A s.heap H locs) (hI8 : Inv8 g ad8 pe ct8) (hI9 : IR g ad9 me ct9) (hT : tieT ad8 ad9) (hJ : lwJ kq nq (zlen (ct8 20))) (hl : lv_has ls 4 [(0, .ref b), (1, .ref x0), (2, .ref m0), (3, .int i)]) : W p l e room_1 s m #[Value.ref b] below meth c H locs kq nq (lw_Z below #[Value.ref b] s) (F0 m 1174 ls []) := by
  obtain ⟨hx, hb, hr, hml, hown, hts, hX, hbl, hlocks, hgv⟩ := C0
  have hg : ∀ w ∈ zGW, w.before #[Value.ref b] s = true := fun w h => hts w (List.mem_filter.mp h).1
  have hown : s.vm.findClass RL = some m.cls := hown
  have hbA : ¬ A b := fun h => absurd (hA' b h) (Nat.not_le.mpr hbl)
  subst hx0
  subst hm0
  refine lv_aload_n hx hb dL_law_1174 rfl (lv_at hl 1 rfl) ?_
  refine lv_aload_n hx hb dL_law_1175 rfl (lv_at hl 0 rfl) ?_
  refine lv_iload_n hx hb dL_law_1176 rfl (lv_at hl 3 rfl) ?_
  refine lv_iconst (v := 1) hx hb dL_law_1177 (by decide) ?_
  refine lv_iadd hx hb dL_law_1178 ?_
  refine lv_topi (fun x1 ex1 => ?_)
  have tx1 : x1.toInt = i.toInt + 1 := by rw [ex1]; exact z_add rfl (by decide : (1 : Int32).toInt = 1) (by omega) (by omega)
  refine va_sld hx hb hX hbl hbA hS (z_in rfl (by omega) (by omega)) dL_law_1179 ?_
  refine lv_topi (fun y2 ey2 => ?_)
  refine lv_aload_n hx hb dL_law_1180 rfl (lv_at hl 0 rfl) ?_
  refine lv_iload_n hx hb dL_law_1181 rfl (lv_at hl 3 rfl) ?_
  refine lv_iconst (v := 2) hx hb dL_law_1182 (by decide) ?_
  refine lv_iadd hx hb dL_law_1183 ?_
  refine lv_topi (fun x3 ex3 => ?_)
  have tx3 : x3.toInt = i.toInt + 2 := by rw [ex3]; exact z_add rfl (by decide : (2 : Int32).toInt = 2) (by omega) (by omega)
  refine va_sld hx hb hX hbl hbA hS (z_in rfl (by omega) (by omega)) dL_law_1184 ?_
  refine lv_topi (fun y4 ey4 => ?_)
  refine lv_aload_n hx hb dL_law_1185 rfl (lv_at hl 0 rfl) ?_
  refine lv_iload_n hx hb dL_law_1186 rfl (lv_at hl 3 rfl) ?_
  refine lv_iconst (v := 3) hx hb dL_law_1187 (by decide) ?_
  refine lv_iadd hx hb dL_law_1188 ?_
  refine lv_topi (fun x5 ex5 => ?_)
  have tx5 : x5.toInt = i.toInt + 3 := by rw [ex5]; exact z_add rfl (by decide : (3 : Int32).toInt = 3) (by omega) (by omega)
  refine va_sld hx hb hX hbl hbA hS (z_in rfl (by omega) (by omega)) dL_law_1189 ?_
  refine lv_topi (fun y6 ey6 => ?_)
  have hjb := lwJ_b hJ
  have hPc := zP_l hP
  have hDc := zD_l hD
  have hFc := zw_free hDc hS hA
  obtain ⟨z8, z9, q10, q11, q12, hs13⟩ := a8_0 hI8
  refine va_calli (va_runV (As := [.int y2, .int y4, .int y6]) (rest := []) ⟨hx, hb, hml, hown, hg⟩ (zs_i hI8 (k_X8_fewest l g _ ad8 pe ct8 y2 y4 y6 hI8)) (cwV 3 hg (z_gV mm_782 mm_783 mm_784 mm_108 mm_785) rfl rfl rfl (by decide +kernel) ⟨Nat.le_of_ble_eq_true rfl, Nat.le_of_ble_eq_true rfl⟩) ⟨(zA.pre [.ref (ad8 0), .int y2, .int y4, .int y6] hPc hK hDc hN).1, va_recv hK hPc (ci := 8) (q0 := 0) rfl (zw_at (by omega) hs13), (zA.pre [.ref (ad8 0), .int y2, .int y4, .int y6] hPc hK hDc hN).2⟩ rfl rfl hl.1 rfl (lv_room (Nat.le_of_ble_eq_true rfl)) dL_law_1190 ⟨(show kq + 0 ≤ 600000 by omega), (show nq + 0 ≤ 7302250 by omega)⟩) hS (fun q _ h => hFc q h) hFc (fun r14 u15 t H1 locs ht hvm hr14 hB hz1 hk1 hS => ?_)
  obtain ⟨⟨ct16, hP1, hD1, hI8⟩, hzs⟩ := hB
  rw [ht] at hP1 hzs
  have hzl := hzs.eq hP1 hI8
  rw [← hzl] at hJ
  obtain ⟨hP, hD⟩ := z_two hP hD hk1 hFc hP1 hD1
  generalize H1 = H at hP hS ⊢
  refine W.widen (k := kq) (n := nq) (Nat.le_refl _) (Nat.le_refl _) ?_
  refine lv_pop hx hb dL_law_1193 rfl ?_
  refine lv_aload_n hx hb dL_law_1194 rfl (lv_at hl 2 rfl) ?_
  refine lv_aload_n hx hb dL_law_1195 rfl (lv_at hl 0 rfl) ?_
  refine lv_iload_n hx hb dL_law_1196 rfl (lv_at hl 3 rfl) ?_
  refine lv_iconst (v := 1) hx hb dL_law_1197 (by decide) ?_
  refine lv_iadd hx hb dL_law_1198 ?_
  refine lv_topi (fun x17 ex17 => ?_)
  obtain rfl : x1 = x17 := ex1.trans ex17.symm
  refine va_sld hx hb hX hbl hbA hS (z_in rfl (by omega) (by omega)) dL_law_1199 ?_
  refine lv_topi (fun y18 ey18 => ?_)
  obtain rfl : y2 = y18 := ey2.trans ey18.symm
  refine lv_aload_n hx hb dL_law_1200 rfl (lv_at hl 0 rfl) ?_
  refine lv_iload_n hx hb dL_law_1201 rfl (lv_at hl 3 rfl) ?_
  refine lv_iconst (v := 2) hx hb dL_law_1202 (by decide) ?_
  refine lv_iadd hx hb dL_law_1203 ?_
  refine lv_topi (fun x19 ex19 => ?_)
  obtain rfl : x3 = x19 := ex3.trans ex19.symm
  refine va_sld hx hb hX hbl hbA hS (z_in rfl (by omega) (by omega)) dL_law_1204 ?_
  refine lv_topi (fun y20 ey20 => ?_)
  obtain rfl : y4 = y20 := ey4.trans ey20.symm
  refine lv_aload_n hx hb dL_law_1205 rfl (lv_at hl 0 rfl) ?_
  refine lv_iload_n hx hb dL_law_1206 rfl (lv_at hl 3 rfl) ?_
  refine lv_iconst (v := 3) hx hb dL_law_1207 (by decide) ?_
  refine lv_iadd hx hb dL_law_1208 ?_
  refine lv_topi (fun x21 ex21 => ?_)
  obtain rfl : x5 = x21 := ex5.trans ex21.symm
  refine va_sld hx hb hX hbl hbA hS (z_in rfl (by omega) (by omega)) dL_law_1209 ?_
  refine lv_topi (fun y22 ey22 => ?_)
  obtain rfl : y6 = y22 := ey6.trans ey22.symm
  have hjb := lwJ_b hJ
  have hPs := z_swapP hP
  have hDs := z_swapD hD
  have hPc := zP_l hPs
  have hDc := zD_l hDs
  have hFc := zw_free hDc hS hA
  obtain ⟨z24, z25, z26, z27, z28, z29, z30, z31, z32, z33, z34, z35, z36, z37, z38, q39, q40, q41, q42, q43, q44, q45, q46, q47, q48, q49, q50, q51, q52, q53, q54, q55, q56, q57, q58, hs59⟩ := a9_0 hI9.1
  refine va_calli (va_runV (As := [.int y2, .int y4, .int y6]) (rest := []) ⟨hx, hb, hml, hown, hg⟩ (k_X9_fewest l g _ ad9 me ct9 y2 y4 y6 hI9) (cwV 3 hg (z_gV mm_1415 mm_1416 mm_1417 mm_117 mm_1418) rfl rfl rfl (by decide +kernel) ⟨Nat.le_of_ble_eq_true rfl, Nat.le_of_ble_eq_true rfl⟩) ⟨(zA.pre [.ref (ad9 0), .int y2, .int y4, .int y6] hPc hK hDc hN).1, va_recv hK hPc (ci := 9) (q0 := 0) rfl (zw_at (by omega) hs59), (zA.pre [.ref (ad9 0), .int y2, .int y4, .int y6] hPc hK hDc hN).2⟩ rfl rfl hl.1 rfl (lv_room (Nat.le_of_ble_eq_true rfl)) dL_law_1210 ⟨(show kq + 0 ≤ 600000 by omega), (show nq + 0 ≤ 7302250 by omega)⟩) hS (fun q _ h => hFc q h) hFc (fun r60 u61 t H1 locs ht hvm hr60 hB hz1 hk1 hS => ?_)
  obtain ⟨ct62, hP1, hD1, hI9⟩ := hB
  rw [ht] at hP1
  obtain ⟨hP, hD⟩ := z_two hPs hDs hk1 hFc hP1 hD1
  have hP := z_swapP hP
  have hD := z_swapD hD
  generalize H1 = H at hP hS ⊢
  refine W.widen (k := kq) (n := nq) (Nat.le_refl _) (Nat.le_refl _) ?_
  refine lv_pop hx hb dL_law_1213 rfl ?_
  refine lv_goto (tgt := 1531) hx hb dL_law_1214 (by decide) ?_
  exact kk ad8 ad9 ct16 ct62 pe me _ _ kq nq ls rfl rfl hP hD hS hI8 hI9 hT hJ (lv_sub hl [0, 1, 2, 3] rfl)

set_option maxHeartbeats 4000000 in
set_option maxRecDepth 100000 in
theorem op_questions {p : Program} {e : Env} {s : State} {m : MethodId} {below : List Frame} {meth : Method} {c : Code} (l : Launch) {b L : Nat} {xs : Nat → Int32} (C0 : lw_At p s m meth c b L xs) (g : zG) (hK : zK g s) (hN : zN s) {A : Nat → Prop} (hA : ∀ q, s.heap.size ≤ q → A q) (hA' : ∀ q, A q → s.heap.size ≤ q) (x0 m0 : Nat) (i : Int32) (hi : 0 ≤ i.toInt ∧ i.toInt ≤ 3066) (hiL : i.toInt + 5 < (L : Int)) (kk : ∀ (ad8b ad9b : Nat → Nat) (ct8b ct9b : Nat → va_E) (peb meb : Int32) (H : Heap) (locs : List Loc) (kq nq : Nat) (ls : Array Slot), ad8b 0 = x0 → ad9b 0 = m0 → zP g (zw 126 ad8b ct8b ++ zw 32 ad9b ct9b) H → va_D A (zw 126 ad8b ct8b ++ zw 32 ad9b ct9b) → va_S A s.heap H locs → Inv8 g ad8b peb ct8b → IR g ad9b meb ct9b → tieT ad8b ad9b → lwJ kq nq (zlen (ct8b 20)) → lv_has ls 4 [(0, .ref b), (1, .ref x0), (2, .ref m0), (3, .int i)] → W p l e room_1 s m #[Value.ref b] below meth c H locs kq nq (lw_Z below #[Value.ref b] s) (F0 m 1531 ls [])) (ad8 ad9 : Nat → Nat) (ct8 ct9 : Nat → va_E) (pe me : Int32) (H : Heap) (locs : List Loc) (kq nq : Nat) (ls : Array Slot) (hx0 : ad8 0 = x0) (hm0 : ad9 0 = m0) (hP : zP g (zw 126 ad8 ct8 ++ zw 32 ad9 ct9) H) (hD : va_D A (zw 126 ad8 ct8 ++ zw 32 ad9 ct9)) (hS : va_S A s.heap H locs) (hI8 : Inv8 g ad8 pe ct8) (hI9 : IR g ad9 me ct9) (hT : tieT ad8 ad9) (hJ : lwJ kq nq (zlen (ct8 20))) (hl : lv_has ls 4 [(0, .ref b), (1, .ref x0), (2, .ref m0), (3, .int i)]) : W p l e room_1 s m #[Value.ref b] below meth c H locs kq nq (lw_Z below #[Value.ref b] s) (F0 m 1217 ls []) := by
  obtain ⟨hx, hb, hr, hml, hown, hts, hX, hbl, hlocks, hgv⟩ := C0
  have hg : ∀ w ∈ zGW, w.before #[Value.ref b] s = true := fun w h => hts w (List.mem_filter.mp h).1
  have hown : s.vm.findClass RL = some m.cls := hown
  have hbA : ¬ A b := fun h => absurd (hA' b h) (Nat.not_le.mpr hbl)
  subst hx0
  subst hm0
  refine lv_aload_n hx hb dL_law_1217 rfl (lv_at hl 1 rfl) ?_
  refine lv_aload_n hx hb dL_law_1218 rfl (lv_at hl 0 rfl) ?_
  refine lv_iload_n hx hb dL_law_1219 rfl (lv_at hl 3 rfl) ?_
  refine lv_iconst (v := 1) hx hb dL_law_1220 (by decide) ?_
  refine lv_iadd hx hb dL_law_1221 ?_
  refine lv_topi (fun x1 ex1 => ?_)
  have tx1 : x1.toInt = i.toInt + 1 := by rw [ex1]; exact z_add rfl (by decide : (1 : Int32).toInt = 1) (by omega) (by omega)
  refine va_sld hx hb hX hbl hbA hS (z_in rfl (by omega) (by omega)) dL_law_1222 ?_
  refine lv_topi (fun y2 ey2 => ?_)
  refine lv_aload_n hx hb dL_law_1223 rfl (lv_at hl 0 rfl) ?_
  refine lv_iload_n hx hb dL_law_1224 rfl (lv_at hl 3 rfl) ?_
  refine lv_iconst (v := 2) hx hb dL_law_1225 (by decide) ?_
  refine lv_iadd hx hb dL_law_1226 ?_
  refine lv_topi (fun x3 ex3 => ?_)
  have tx3 : x3.toInt = i.toInt + 2 := by rw [ex3]; exact z_add rfl (by decide : (2 : Int32).toInt = 2) (by omega) (by omega)
  refine va_sld hx hb hX hbl hbA hS (z_in rfl (by omega) (by omega)) dL_law_1227 ?_
  refine lv_topi (fun y4 ey4 => ?_)
  refine lv_aload_n hx hb dL_law_1228 rfl (lv_at hl 0 rfl) ?_
  refine lv_iload_n hx hb dL_law_1229 rfl (lv_at hl 3 rfl) ?_
  refine lv_iconst (v := 3) hx hb dL_law_1230 (by decide) ?_
  refine lv_iadd hx hb dL_law_1231 ?_
  refine lv_topi (fun x5 ex5 => ?_)
  have tx5 : x5.toInt = i.toInt + 3 := by rw [ex5]; exact z_add rfl (by decide : (3 : Int32).toInt = 3) (by omega) (by omega)
  refine va_sld hx hb hX hbl hbA hS (z_in rfl (by omega) (by omega)) dL_law_1232 ?_
  refine lv_topi (fun y6 ey6 => ?_)
  refine lv_aload_n hx hb dL_law_1233 rfl (lv_at hl 0 rfl) ?_
  refine lv_iload_n hx hb dL_law_1234 rfl (lv_at hl 3 rfl) ?_
  refine lv_iconst (v := 4) hx hb dL_law_1235 (by decide) ?_
  refine lv_iadd hx hb dL_law_1236 ?_
  refine lv_topi (fun x7 ex7 => ?_)
  have tx7 : x7.toInt = i.toInt + 4 := by rw [ex7]; exact z_add rfl (by decide : (4 : Int32).toInt = 4) (by omega) (by omega)
  refine va_sld hx hb hX hbl hbA hS (z_in rfl (by omega) (by omega)) dL_law_1237 ?_
  refine lv_topi (fun y8 ey8 => ?_)
  have hjb := lwJ_b hJ
  have hPc := zP_l hP
  have hDc := zD_l hD
  have hFc := zw_free hDc hS hA
  obtain ⟨z10, z11, q12, q13, q14, hs15⟩ := a8_0 hI8
  refine W.know (fun k1 k2 k3 => ?_)
  refine va_calli (va_runV (As := [.int y2, .int y4, .int y6, .int y8]) (rest := []) ⟨hx, hb, hml, hown, hg⟩ (zg_i (k_X8_questions l g _ ad8 pe ct8 y2 y4 y6 y8 hI8) H rfl) (cwV 4 hg (z_gV mm_795 mm_796 mm_797 mm_108 mm_798) rfl rfl rfl (by decide +kernel) ⟨Nat.le_of_ble_eq_true rfl, Nat.le_of_ble_eq_true rfl⟩) ⟨(zA.preH [.ref (ad8 0), .int y2, .int y4, .int y6, .int y8] hPc hK hDc hN).1, va_recv hK hPc (ci := 8) (q0 := 0) rfl (zw_at (by omega) hs15), (zA.preH [.ref (ad8 0), .int y2, .int y4, .int y6, .int y8] hPc hK hDc hN).2⟩ rfl rfl hl.1 rfl (lv_room (Nat.le_of_ble_eq_true rfl)) dL_law_1238 ⟨(show kq + 1 ≤ 600000 by omega), (show nq + 131072 ≤ 7302250 by omega)⟩) hS (fun q _ h => hFc q h) hFc (fun r16 u17 t H1 locs ht hvm hr16 hB hz1 hk1 hS => ?_)
  obtain ⟨⟨ad19, ct18, hadk, hP1, hD1, hI8, hgr⟩, hkeep⟩ := hB
  rw [ht] at hP1 hgr hkeep
  obtain ⟨hP, hD⟩ := z_two hP hD hk1 hFc hP1 hD1
  obtain ⟨kq21, nq22, hw1, hw2, hJ⟩ := lw_grow hJ k1 k2 k3 hkeep hP1 hI8 hgr
  have hT := tieT_20 hadk hT
  refine W.tight hw1 hw2 ?_
  have had20 : ad19 0 = ad8 0 := (hadk 0 (by decide))
  rw [← (hadk 0 (by decide) : ad19 0 = ad8 0)] at hl
  generalize H1 = H at hP hS ⊢
  refine lv_pop hx hb dL_law_1241 rfl ?_
  refine lv_aload_n hx hb dL_law_1242 rfl (lv_at hl 2 rfl) ?_
  refine lv_aload_n hx hb dL_law_1243 rfl (lv_at hl 0 rfl) ?_
  refine lv_iload_n hx hb dL_law_1244 rfl (lv_at hl 3 rfl) ?_
  refine lv_iconst (v := 1) hx hb dL_law_1245 (by decide) ?_
  refine lv_iadd hx hb dL_law_1246 ?_
  refine lv_topi (fun x23 ex23 => ?_)
  obtain rfl : x1 = x23 := ex1.trans ex23.symm
  refine va_sld hx hb hX hbl hbA hS (z_in rfl (by omega) (by omega)) dL_law_1247 ?_
  refine lv_topi (fun y24 ey24 => ?_)
  obtain rfl : y2 = y24 := ey2.trans ey24.symm
  refine lv_aload_n hx hb dL_law_1248 rfl (lv_at hl 0 rfl) ?_
  refine lv_iload_n hx hb dL_law_1249 rfl (lv_at hl 3 rfl) ?_
  refine lv_iconst (v := 2) hx hb dL_law_1250 (by decide) ?_
  refine lv_iadd hx hb dL_law_1251 ?_
  refine lv_topi (fun x25 ex25 => ?_)
  obtain rfl : x3 = x25 := ex3.trans ex25.symm
  refine va_sld hx hb hX hbl hbA hS (z_in rfl (by omega) (by omega)) dL_law_1252 ?_
  refine lv_topi (fun y26 ey26 => ?_)
  obtain rfl : y4 = y26 := ey4.trans ey26.symm
  refine lv_aload_n hx hb dL_law_1253 rfl (lv_at hl 0 rfl) ?_
  refine lv_iload_n hx hb dL_law_1254 rfl (lv_at hl 3 rfl) ?_
  refine lv_iconst (v := 3) hx hb dL_law_1255 (by decide) ?_
  refine lv_iadd hx hb dL_law_1256 ?_
  refine lv_topi (fun x27 ex27 => ?_)
  obtain rfl : x5 = x27 := ex5.trans ex27.symm
  refine va_sld hx hb hX hbl hbA hS (z_in rfl (by omega) (by omega)) dL_law_1257 ?_
  refine lv_topi (fun y28 ey28 => ?_)
  obtain rfl : y6 = y28 := ey6.trans ey28.symm
  refine lv_aload_n hx hb dL_law_1258 rfl (lv_at hl 0 rfl) ?_
  refine lv_iload_n hx hb dL_law_1259 rfl (lv_at hl 3 rfl) ?_
  refine lv_iconst (v := 4) hx hb dL_law_1260 (by decide) ?_
  refine lv_iadd hx hb dL_law_1261 ?_
  refine lv_topi (fun x29 ex29 => ?_)
  obtain rfl : x7 = x29 := ex7.trans ex29.symm
  refine va_sld hx hb hX hbl hbA hS (z_in rfl (by omega) (by omega)) dL_law_1262 ?_
  refine lv_topi (fun y30 ey30 => ?_)
  obtain rfl : y8 = y30 := ey8.trans ey30.symm
  have hjb := lwJ_b hJ
  have hPs := z_swapP hP
  have hDs := z_swapD hD
  have hPc := zP_l hPs
  have hDc := zD_l hDs
  have hFc := zw_free hDc hS hA
  obtain ⟨z32, z33, z34, z35, z36, z37, z38, z39, z40, z41, z42, z43, z44, z45, z46, q47, q48, q49, q50, q51, q52, q53, q54, q55, q56, q57, q58, q59, q60, q61, q62, q63, q64, q65, q66, hs67⟩ := a9_0 hI9.1
  refine va_calli (va_runV (As := [.int y2, .int y4, .int y6, .int y8]) (rest := []) ⟨hx, hb, hml, hown, hg⟩ (k_X9_questions l g _ ad9 me ct9 y2 y4 y6 y8 hI9) (cwV 4 hg (z_gV mm_1427 mm_1428 mm_1429 mm_117 mm_1430) rfl rfl rfl (by decide +kernel) ⟨Nat.le_of_ble_eq_true rfl, Nat.le_of_ble_eq_true rfl⟩) ⟨(zA.pre [.ref (ad9 0), .int y2, .int y4, .int y6, .int y8] hPc hK hDc hN).1, va_recv hK hPc (ci := 9) (q0 := 0) rfl (zw_at (by omega) hs67), (zA.pre [.ref (ad9 0), .int y2, .int y4, .int y6, .int y8] hPc hK hDc hN).2⟩ rfl rfl hl.1 rfl (lv_room (Nat.le_of_ble_eq_true rfl)) dL_law_1263 ⟨(show kq21 + 0 ≤ 600000 by omega), (show nq22 + 0 ≤ 7302250 by omega)⟩) hS (fun q _ h => hFc q h) hFc (fun r68 u69 t H1 locs ht hvm hr68 hB hz1 hk1 hS => ?_)
  obtain ⟨ct70, hP1, hD1, hI9⟩ := hB
  rw [ht] at hP1
  obtain ⟨hP, hD⟩ := z_two hPs hDs hk1 hFc hP1 hD1
  have hP := z_swapP hP
  have hD := z_swapD hD
  generalize H1 = H at hP hS ⊢
  refine W.widen (k := kq21) (n := nq22) (Nat.le_refl _) (Nat.le_refl _) ?_
  refine lv_pop hx hb dL_law_1266 rfl ?_
  refine lv_goto (tgt := 1531) hx hb dL_law_1267 (by decide) ?_
  rw [had20] at hl
  exact kk ad19 ad9 ct18 ct70 pe me _ _ kq21 nq22 ls had20 rfl hP hD hS hI8 hI9 hT hJ (lv_sub hl [0, 1, 2, 3] rfl)

set_option maxHeartbeats 4000000 in
set_option maxRecDepth 100000 in
theorem op_blurring {p : Program} {e : Env} {s : State} {m : MethodId} {below : List Frame} {meth : Method} {c : Code} (l : Launch) {b L : Nat} {xs : Nat → Int32} (C0 : lw_At p s m meth c b L xs) (g : zG) (hK : zK g s) (hN : zN s) {A : Nat → Prop} (hA : ∀ q, s.heap.size ≤ q → A q) (hA' : ∀ q, A q → s.heap.size ≤ q) (x0 m0 : Nat) (i : Int32) (hi : 0 ≤ i.toInt ∧ i.toInt ≤ 3066) (hiL : i.toInt + 5 < (L : Int)) (kk : ∀ (ad8b ad9b : Nat → Nat) (ct8b ct9b : Nat → va_E) (peb meb : Int32) (H : Heap) (locs : List Loc) (kq nq : Nat) (ls : Array Slot), ad8b 0 = x0 → ad9b 0 = m0 → zP g (zw 126 ad8b ct8b ++ zw 32 ad9b ct9b) H → va_D A (zw 126 ad8b ct8b ++ zw 32 ad9b ct9b) → va_S A s.heap H locs → Inv8 g ad8b peb ct8b → IR g ad9b meb ct9b → tieT ad8b ad9b → lwJ kq nq (zlen (ct8b 20)) → lv_has ls 4 [(0, .ref b), (1, .ref x0), (2, .ref m0), (3, .int i)] → W p l e room_1 s m #[Value.ref b] below meth c H locs kq nq (lw_Z below #[Value.ref b] s) (F0 m 1531 ls [])) (ad8 ad9 : Nat → Nat) (ct8 ct9 : Nat → va_E) (pe me : Int32) (H : Heap) (locs : List Loc) (kq nq : Nat) (ls : Array Slot) (hx0 : ad8 0 = x0) (hm0 : ad9 0 = m0) (hP : zP g (zw 126 ad8 ct8 ++ zw 32 ad9 ct9) H) (hD : va_D A (zw 126 ad8 ct8 ++ zw 32 ad9 ct9)) (hS : va_S A s.heap H locs) (hI8 : Inv8 g ad8 pe ct8) (hI9 : IR g ad9 me ct9) (hT : tieT ad8 ad9) (hJ : lwJ kq nq (zlen (ct8 20))) (hl : lv_has ls 4 [(0, .ref b), (1, .ref x0), (2, .ref m0), (3, .int i)]) : W p l e room_1 s m #[Value.ref b] below meth c H locs kq nq (lw_Z below #[Value.ref b] s) (F0 m 1270 ls []) := by
  obtain ⟨hx, hb, hr, hml, hown, hts, hX, hbl, hlocks, hgv⟩ := C0
  have hg : ∀ w ∈ zGW, w.before #[Value.ref b] s = true := fun w h => hts w (List.mem_filter.mp h).1
  have hown : s.vm.findClass RL = some m.cls := hown
  have hbA : ¬ A b := fun h => absurd (hA' b h) (Nat.not_le.mpr hbl)
  subst hx0
  subst hm0
  refine lv_aload_n hx hb dL_law_1270 rfl (lv_at hl 1 rfl) ?_
  refine lv_aload_n hx hb dL_law_1271 rfl (lv_at hl 0 rfl) ?_
  refine lv_iload_n hx hb dL_law_1272 rfl (lv_at hl 3 rfl) ?_
  refine lv_iconst (v := 1) hx hb dL_law_1273 (by decide) ?_
  refine lv_iadd hx hb dL_law_1274 ?_
  refine lv_topi (fun x1 ex1 => ?_)
  have tx1 : x1.toInt = i.toInt + 1 := by rw [ex1]; exact z_add rfl (by decide : (1 : Int32).toInt = 1) (by omega) (by omega)
  refine va_sld hx hb hX hbl hbA hS (z_in rfl (by omega) (by omega)) dL_law_1275 ?_
  refine lv_topi (fun y2 ey2 => ?_)
  refine lv_aload_n hx hb dL_law_1276 rfl (lv_at hl 0 rfl) ?_
  refine lv_iload_n hx hb dL_law_1277 rfl (lv_at hl 3 rfl) ?_
  refine lv_iconst (v := 2) hx hb dL_law_1278 (by decide) ?_
  refine lv_iadd hx hb dL_law_1279 ?_
  refine lv_topi (fun x3 ex3 => ?_)
  have tx3 : x3.toInt = i.toInt + 2 := by rw [ex3]; exact z_add rfl (by decide : (2 : Int32).toInt = 2) (by omega) (by omega)
  refine va_sld hx hb hX hbl hbA hS (z_in rfl (by omega) (by omega)) dL_law_1280 ?_
  refine lv_topi (fun y4 ey4 => ?_)
  refine lv_aload_n hx hb dL_law_1281 rfl (lv_at hl 0 rfl) ?_
  refine lv_iload_n hx hb dL_law_1282 rfl (lv_at hl 3 rfl) ?_
  refine lv_iconst (v := 3) hx hb dL_law_1283 (by decide) ?_
  refine lv_iadd hx hb dL_law_1284 ?_
  refine lv_topi (fun x5 ex5 => ?_)
  have tx5 : x5.toInt = i.toInt + 3 := by rw [ex5]; exact z_add rfl (by decide : (3 : Int32).toInt = 3) (by omega) (by omega)
  refine va_sld hx hb hX hbl hbA hS (z_in rfl (by omega) (by omega)) dL_law_1285 ?_
  refine lv_topi (fun y6 ey6 => ?_)
  refine lv_aload_n hx hb dL_law_1286 rfl (lv_at hl 0 rfl) ?_
  refine lv_iload_n hx hb dL_law_1287 rfl (lv_at hl 3 rfl) ?_
  refine lv_iconst (v := 4) hx hb dL_law_1288 (by decide) ?_
  refine lv_iadd hx hb dL_law_1289 ?_
  refine lv_topi (fun x7 ex7 => ?_)
  have tx7 : x7.toInt = i.toInt + 4 := by rw [ex7]; exact z_add rfl (by decide : (4 : Int32).toInt = 4) (by omega) (by omega)
  refine va_sld hx hb hX hbl hbA hS (z_in rfl (by omega) (by omega)) dL_law_1290 ?_
  refine lv_topi (fun y8 ey8 => ?_)
  have hjb := lwJ_b hJ
  have hPc := zP_l hP
  have hDc := zD_l hD
  have hFc := zw_free hDc hS hA
  obtain ⟨z10, z11, q12, q13, q14, hs15⟩ := a8_0 hI8
  refine va_calli (va_runV (As := [.int y2, .int y4, .int y6, .int y8]) (rest := []) ⟨hx, hb, hml, hown, hg⟩ (zs_i hI8 (k_X8_blurring l g _ ad8 pe ct8 y2 y4 y6 y8 hI8)) (cwV 4 hg (z_gV mm_849 mm_850 mm_851 mm_108 mm_852) rfl rfl rfl (by decide +kernel) ⟨Nat.le_of_ble_eq_true rfl, Nat.le_of_ble_eq_true rfl⟩) ⟨(zA.pre [.ref (ad8 0), .int y2, .int y4, .int y6, .int y8] hPc hK hDc hN).1, va_recv hK hPc (ci := 8) (q0 := 0) rfl (zw_at (by omega) hs15), (zA.pre [.ref (ad8 0), .int y2, .int y4, .int y6, .int y8] hPc hK hDc hN).2⟩ rfl rfl hl.1 rfl (lv_room (Nat.le_of_ble_eq_true rfl)) dL_law_1291 ⟨(show kq + 0 ≤ 600000 by omega), (show nq + 0 ≤ 7302250 by omega)⟩) hS (fun q _ h => hFc q h) hFc (fun r16 u17 t H1 locs ht hvm hr16 hB hz1 hk1 hS => ?_)
  obtain ⟨⟨ct18, hP1, hD1, hI8⟩, hzs⟩ := hB
  rw [ht] at hP1 hzs
  have hzl := hzs.eq hP1 hI8
  rw [← hzl] at hJ
  obtain ⟨hP, hD⟩ := z_two hP hD hk1 hFc hP1 hD1
  generalize H1 = H at hP hS ⊢
  refine W.widen (k := kq) (n := nq) (Nat.le_refl _) (Nat.le_refl _) ?_
  refine lv_pop hx hb dL_law_1294 rfl ?_
  refine lv_aload_n hx hb dL_law_1295 rfl (lv_at hl 2 rfl) ?_
  refine lv_aload_n hx hb dL_law_1296 rfl (lv_at hl 0 rfl) ?_
  refine lv_iload_n hx hb dL_law_1297 rfl (lv_at hl 3 rfl) ?_
  refine lv_iconst (v := 1) hx hb dL_law_1298 (by decide) ?_
  refine lv_iadd hx hb dL_law_1299 ?_
  refine lv_topi (fun x19 ex19 => ?_)
  obtain rfl : x1 = x19 := ex1.trans ex19.symm
  refine va_sld hx hb hX hbl hbA hS (z_in rfl (by omega) (by omega)) dL_law_1300 ?_
  refine lv_topi (fun y20 ey20 => ?_)
  obtain rfl : y2 = y20 := ey2.trans ey20.symm
  refine lv_aload_n hx hb dL_law_1301 rfl (lv_at hl 0 rfl) ?_
  refine lv_iload_n hx hb dL_law_1302 rfl (lv_at hl 3 rfl) ?_
  refine lv_iconst (v := 2) hx hb dL_law_1303 (by decide) ?_
  refine lv_iadd hx hb dL_law_1304 ?_
  refine lv_topi (fun x21 ex21 => ?_)
  obtain rfl : x3 = x21 := ex3.trans ex21.symm
  refine va_sld hx hb hX hbl hbA hS (z_in rfl (by omega) (by omega)) dL_law_1305 ?_
  refine lv_topi (fun y22 ey22 => ?_)
  obtain rfl : y4 = y22 := ey4.trans ey22.symm
  refine lv_aload_n hx hb dL_law_1306 rfl (lv_at hl 0 rfl) ?_
  refine lv_iload_n hx hb dL_law_1307 rfl (lv_at hl 3 rfl) ?_
  refine lv_iconst (v := 3) hx hb dL_law_1308 (by decide) ?_
  refine lv_iadd hx hb dL_law_1309 ?_
  refine lv_topi (fun x23 ex23 => ?_)
  obtain rfl : x5 = x23 := ex5.trans ex23.symm
  refine va_sld hx hb hX hbl hbA hS (z_in rfl (by omega) (by omega)) dL_law_1310 ?_
  refine lv_topi (fun y24 ey24 => ?_)
  obtain rfl : y6 = y24 := ey6.trans ey24.symm
  refine lv_aload_n hx hb dL_law_1311 rfl (lv_at hl 0 rfl) ?_
  refine lv_iload_n hx hb dL_law_1312 rfl (lv_at hl 3 rfl) ?_
  refine lv_iconst (v := 4) hx hb dL_law_1313 (by decide) ?_
  refine lv_iadd hx hb dL_law_1314 ?_
  refine lv_topi (fun x25 ex25 => ?_)
  obtain rfl : x7 = x25 := ex7.trans ex25.symm
  refine va_sld hx hb hX hbl hbA hS (z_in rfl (by omega) (by omega)) dL_law_1315 ?_
  refine lv_topi (fun y26 ey26 => ?_)
  obtain rfl : y8 = y26 := ey8.trans ey26.symm
  have hjb := lwJ_b hJ
  have hPs := z_swapP hP
  have hDs := z_swapD hD
  have hPc := zP_l hPs
  have hDc := zD_l hDs
  have hFc := zw_free hDc hS hA
  obtain ⟨z28, z29, z30, z31, z32, z33, z34, z35, z36, z37, z38, z39, z40, z41, z42, q43, q44, q45, q46, q47, q48, q49, q50, q51, q52, q53, q54, q55, q56, q57, q58, q59, q60, q61, q62, hs63⟩ := a9_0 hI9.1
  refine va_calli (va_runV (As := [.int y2, .int y4, .int y6, .int y8]) (rest := []) ⟨hx, hb, hml, hown, hg⟩ (k_X9_blurring l g _ ad9 me ct9 y2 y4 y6 y8 hI9) (cwV 4 hg (z_gV mm_1444 mm_1445 mm_1446 mm_117 mm_1447) rfl rfl rfl (by decide +kernel) ⟨Nat.le_of_ble_eq_true rfl, Nat.le_of_ble_eq_true rfl⟩) ⟨(zA.pre [.ref (ad9 0), .int y2, .int y4, .int y6, .int y8] hPc hK hDc hN).1, va_recv hK hPc (ci := 9) (q0 := 0) rfl (zw_at (by omega) hs63), (zA.pre [.ref (ad9 0), .int y2, .int y4, .int y6, .int y8] hPc hK hDc hN).2⟩ rfl rfl hl.1 rfl (lv_room (Nat.le_of_ble_eq_true rfl)) dL_law_1316 ⟨(show kq + 0 ≤ 600000 by omega), (show nq + 0 ≤ 7302250 by omega)⟩) hS (fun q _ h => hFc q h) hFc (fun r64 u65 t H1 locs ht hvm hr64 hB hz1 hk1 hS => ?_)
  obtain ⟨ct66, hP1, hD1, hI9⟩ := hB
  rw [ht] at hP1
  obtain ⟨hP, hD⟩ := z_two hPs hDs hk1 hFc hP1 hD1
  have hP := z_swapP hP
  have hD := z_swapD hD
  generalize H1 = H at hP hS ⊢
  refine W.widen (k := kq) (n := nq) (Nat.le_refl _) (Nat.le_refl _) ?_
  refine lv_pop hx hb dL_law_1319 rfl ?_
  refine lv_goto (tgt := 1531) hx hb dL_law_1320 (by decide) ?_
  exact kk ad8 ad9 ct18 ct66 pe me _ _ kq nq ls rfl rfl hP hD hS hI8 hI9 hT hJ (lv_sub hl [0, 1, 2, 3] rfl)

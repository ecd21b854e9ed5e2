set_option maxHeartbeats 4000000 in
set_option maxRecDepth 100000 in
theorem op_cut {p : Program} {e : Env} {s : State} {m : MethodId} {below : List Frame} {meth : Method} {c : Code} (l : Launch) {b : Nat} {xs : Nat → Int32} (C0 : lw_At p s m meth c b 6 xs) (g : zG) (hK : zK g s) (hN : zN s) (x0 : Nat) (w0 : Value) (w1 : Value) (w2 : Value) (w3 : Value) (w4 : Value) (w5 : Value) (w6 : Value) (w7 : Value) (w8 : Value) (w9 : Value) (w10 : Value) (m0 : Nat) (u1 : Value) (u2 : Value) (u3 : Value) (u4 : Value) (u9 : Value) (u10 : Value) (u11 : Value) (u12 : Value) (u13 : Value) (u14 : Value) (u15 : Value) (u17 : Value) (u18 : Value) (u19 : Value) (u20 : Value) (u21 : Value) (u22 : Value) (u23 : Value) (u24 : Value) (u25 : Value) (u26 : Value) (u27 : Value) (u28 : Value) (u29 : Value) (u30 : Value) (u31 : Value) (u32 : Value) (u33 : Value) (u34 : Value) (u35 : Value) (u36 : Value) (u37 : Value) (u38 : Value) (u39 : Value) (u40 : Value) (u41 : Value) (u42 : Value) (u43 : Value) (u44 : Value) (u45 : Value) (u46 : Value) {A : Nat → Prop} (hA : ∀ q, s.heap.size ≤ q → A q) (hA' : ∀ q, A q → s.heap.size ≤ q) (H : Heap) (locs : List Loc) (hS : va_S A s.heap H locs) (hP : zP g [(x0, .inr (8, [w0, w1, w2, w3, w4, w5, w6, w7, w8, w9, w10, .int 0, .int 0])), (m0, .inr (9, [.int 0, u1, u2, u3, u4, .int 0, .int 0, .int 0, .int 0, u9, u10, u11, u12, u13, u14, u15, .int 0, u17, u18, u19, u20, u21, u22, u23, u24, u25, u26, u27, u28, u29, u30, u31, u32, u33, u34, u35, u36, u37, u38, u39, u40, u41, u42, u43, u44, u45, u46]))] H) (hD : va_D A [(x0, .inr (8, [w0, w1, w2, w3, w4, w5, w6, w7, w8, w9, w10, .int 0, .int 0])), (m0, .inr (9, [.int 0, u1, u2, u3, u4, .int 0, .int 0, .int 0, .int 0, u9, u10, u11, u12, u13, u14, u15, .int 0, u17, u18, u19, u20, u21, u22, u23, u24, u25, u26, u27, u28, u29, u30, u31, u32, u33, u34, u35, u36, u37, u38, u39, u40, u41, u42, u43, u44, u45, u46]))]) (ls : Array Slot) (hl : lv_has ls 4 [(0, .ref b), (1, .ref x0), (2, .ref m0), (3, .int 0)]) : W p l e room_1 s m #[Value.ref b] below meth c H locs 210 203560 (lw_Z below #[Value.ref b] s) (F0 m 536 ls []) := by
  obtain ⟨hx, hb, hr, hml, hown, hts, hX, hbl, hlocks, hgv⟩ := C0
  have hg : ∀ w ∈ zGW, w.before #[Value.ref b] s = true := fun w h => hts w (List.mem_filter.mp h).1
  have hown : s.vm.findClass RL = some m.cls := hown
  have hbA : ¬ A b := fun h => absurd (hA' b h) (Nat.not_le.mpr hbl)
  refine lv_aload_n hx hb dL_law_536 rfl (lv_at hl 1 rfl) ?_
  refine lv_aload_n hx hb dL_law_537 rfl (lv_at hl 0 rfl) ?_
  refine lv_iload_n hx hb dL_law_538 rfl (lv_at hl 3 rfl) ?_
  refine lv_iconst (v := 1) hx hb dL_law_539 (by decide) ?_
  refine lv_iadd hx hb dL_law_540 ?_
  refine lv_topi (fun x1 ex1 => ?_)
  obtain rfl : x1 = 1 := ex1.trans (by decide)
  refine va_sld hx hb hX hbl hbA hS (z_in (by decide : (1 : Int32).toInt = 1) (by omega) (by omega)) dL_law_541 ?_
  refine W.eq (g2 := F0 m 542 ls [.int (xs 1), .ref x0]) rfl ?_
  refine lv_aload_n hx hb dL_law_542 rfl (lv_at hl 0 rfl) ?_
  refine lv_iload_n hx hb dL_law_543 rfl (lv_at hl 3 rfl) ?_
  refine lv_iconst (v := 2) hx hb dL_law_544 (by decide) ?_
  refine lv_iadd hx hb dL_law_545 ?_
  refine lv_topi (fun x2 ex2 => ?_)
  obtain rfl : x2 = 2 := ex2.trans (by decide)
  refine va_sld hx hb hX hbl hbA hS (z_in (by decide : (2 : Int32).toInt = 2) (by omega) (by omega)) dL_law_546 ?_
  refine W.eq (g2 := F0 m 547 ls [.int (xs 2), .int (xs 1), .ref x0]) rfl ?_
  have hPc := hP.sub (ws' := [(x0, .inr (8, [w0, w1, w2, w3, w4, w5, w6, w7, w8, w9, w10, .int 0, .int 0]))]) [0] rfl
  refine zc_i (va_runV (As := [.int (xs 1), .int (xs 2)]) (rest := []) ⟨hx, hb, hml, hown, hg⟩ (c_X8_cut l g x0 (w0 : Value) (w1 : Value) (w2 : Value) (w3 : Value) (w4 : Value) (w5 : Value) (w6 : Value) (w7 : Value) (w8 : Value) (w9 : Value) (w10 : Value) (xs 1) (xs 2) ) (cwV 2 hg (z_gV mm_579 mm_580 mm_581 mm_108 mm_582) rfl rfl rfl (by decide +kernel) ⟨Nat.le_of_ble_eq_true rfl, Nat.le_of_ble_eq_true rfl⟩) ⟨(zR.pre [.ref x0, .int (xs 1), .int (xs 2)] hPc hK hN).1, va_recv hK hPc (ci := 8) (q0 := 0) rfl rfl, (zR.pre [.ref x0, .int (xs 1), .int (xs 2)] hPc hK hN).2⟩ rfl rfl hl.1 rfl (lv_room (Nat.le_of_ble_eq_true rfl)) dL_law_547 ⟨Nat.le_of_ble_eq_true rfl, Nat.le_of_ble_eq_true rfl⟩) (fun r3 hr3 => ?_)
  obtain rfl := hr3
  refine lv_aload_n hx hb dL_law_550 rfl (lv_at hl 2 rfl) ?_
  refine lv_aload_n hx hb dL_law_551 rfl (lv_at hl 0 rfl) ?_
  refine lv_iload_n hx hb dL_law_552 rfl (lv_at hl 3 rfl) ?_
  refine lv_iconst (v := 1) hx hb dL_law_553 (by decide) ?_
  refine lv_iadd hx hb dL_law_554 ?_
  refine lv_topi (fun x4 ex4 => ?_)
  obtain rfl : x4 = 1 := ex4.trans (by decide)
  refine va_sld hx hb hX hbl hbA hS (z_in (by decide : (1 : Int32).toInt = 1) (by omega) (by omega)) dL_law_555 ?_
  refine W.eq (g2 := F0 m 556 ls [.int (xs 1), .ref m0, .int 0]) rfl ?_
  refine lv_aload_n hx hb dL_law_556 rfl (lv_at hl 0 rfl) ?_
  refine lv_iload_n hx hb dL_law_557 rfl (lv_at hl 3 rfl) ?_
  refine lv_iconst (v := 2) hx hb dL_law_558 (by decide) ?_
  refine lv_iadd hx hb dL_law_559 ?_
  refine lv_topi (fun x5 ex5 => ?_)
  obtain rfl : x5 = 2 := ex5.trans (by decide)
  refine va_sld hx hb hX hbl hbA hS (z_in (by decide : (2 : Int32).toInt = 2) (by omega) (by omega)) dL_law_560 ?_
  refine W.eq (g2 := F0 m 561 ls [.int (xs 2), .int (xs 1), .ref m0, .int 0]) rfl ?_
  have hPc := hP.sub (ws' := [(m0, .inr (9, [.int 0, u1, u2, u3, u4, .int 0, .int 0, .int 0, .int 0, u9, u10, u11, u12, u13, u14, u15, .int 0, u17, u18, u19, u20, u21, u22, u23, u24, u25, u26, u27, u28, u29, u30, u31, u32, u33, u34, u35, u36, u37, u38, u39, u40, u41, u42, u43, u44, u45, u46]))]) [1] rfl
  refine zc_i (va_runV (As := [.int (xs 1), .int (xs 2)]) (rest := [.int 0]) ⟨hx, hb, hml, hown, hg⟩ (c_X9_cut l g m0 (u1 : Value) (u2 : Value) (u3 : Value) (u4 : Value) (u9 : Value) (u10 : Value) (u11 : Value) (u12 : Value) (u13 : Value) (u14 : Value) (u15 : Value) (u17 : Value) (u18 : Value) (u19 : Value) (u20 : Value) (u21 : Value) (u22 : Value) (u23 : Value) (u24 : Value) (u25 : Value) (u26 : Value) (u27 : Value) (u28 : Value) (u29 : Value) (u30 : Value) (u31 : Value) (u32 : Value) (u33 : Value) (u34 : Value) (u35 : Value) (u36 : Value) (u37 : Value) (u38 : Value) (u39 : Value) (u40 : Value) (u41 : Value) (u42 : Value) (u43 : Value) (u44 : Value) (u45 : Value) (u46 : Value) (xs 1) (xs 2) ) (cwV 2 hg (z_gV mm_1162 mm_1163 mm_1164 mm_117 mm_1165) rfl rfl rfl (by decide +kernel) ⟨Nat.le_of_ble_eq_true rfl, Nat.le_of_ble_eq_true rfl⟩) ⟨(zR.pre [.ref m0, .int (xs 1), .int (xs 2)] hPc hK hN).1, va_recv hK hPc (ci := 9) (q0 := 0) rfl rfl, (zR.pre [.ref m0, .int (xs 1), .int (xs 2)] hPc hK hN).2⟩ rfl rfl hl.1 rfl (lv_room (Nat.le_of_ble_eq_true rfl)) dL_law_561 ⟨Nat.le_of_ble_eq_true rfl, Nat.le_of_ble_eq_true rfl⟩) (fun r6 hr6 => ?_)
  obtain rfl := hr6
  refine lv_icmp_eq (tgt := 1533) hx hb dL_law_564 (by decide) (fun c7 => ?_) (fun c7 => ?_)
  · skip
    refine lv_iinc (v := 6) (lv' := [(3, .int 6), (0, .ref b), (1, .ref x0), (2, .ref m0)]) hx hb dL_law_1533 hl (k := 3) rfl (by decide) (by decide) rfl (fun ls hl => ?_)
    refine lv_goto (tgt := 18) hx hb dL_law_1536 (by decide) ?_
    refine lv_iload_n hx hb dL_law_18 rfl (lv_at hl 0 rfl) ?_
    refine lv_aload_n hx hb dL_law_19 rfl (lv_at hl 1 rfl) ?_
    refine va_slen hx hb hX hbl hbA hS dL_law_20 ?_
    refine W.eq (g2 := F0 m 21 ls [.int 6, .int 6]) rfl ?_
    refine lv_bipush (v := 6) hx hb dL_law_21 (by decide) ?_
    refine lv_isub hx hb dL_law_23 ?_
    refine lv_topi (fun x8 ex8 => ?_)
    obtain rfl : x8 = 0 := ex8.trans (by decide)
    refine lv_icmp_gt (tgt := 1539) hx hb dL_law_24 (by decide) (fun c9 => ?_) (fun c9 => ?_)
    · skip
      refine lv_iconst (v := 1) hx hb dL_law_1539 (by decide) ?_
      refine va_forget (fun q hq => hA' _ (hS.2.2 q hq)) ?_
      refine W.widen (k := 600000) (n := 7302250) (Nat.le_of_ble_eq_true rfl) (Nat.le_of_ble_eq_true rfl) ?_
      exact lw_ret hx hb hr hlocks dL_law_1540
    · skip
      exact absurd c9 (by decide)
  · skip
    exact absurd c7 (by decide)

set_option maxHeartbeats 4000000 in
set_option maxRecDepth 100000 in
theorem op_swap {p : Program} {e : Env} {s : State} {m : MethodId} {below : List Frame} {meth : Method} {c : Code} (l : Launch) {b : Nat} {xs : Nat → Int32} (C0 : lw_At p s m meth c b 6 xs) (g : zG) (hK : zK g s) (hN : zN s) (x0 : Nat) (w0 : Value) (w1 : Value) (w2 : Value) (w3 : Value) (w4 : Value) (w5 : Value) (w6 : Value) (w7 : Value) (w8 : Value) (w9 : Value) (w10 : Value) (m0 : Nat) (u1 : Value) (u2 : Value) (u3 : Value) (u4 : Value) (u9 : Value) (u10 : Value) (u11 : Value) (u12 : Value) (u13 : Value) (u14 : Value) (u15 : Value) (u17 : Value) (u18 : Value) (u19 : Value) (u20 : Value) (u21 : Value) (u22 : Value) (u23 : Value) (u24 : Value) (u25 : Value) (u26 : Value) (u27 : Value) (u28 : Value) (u29 : Value) (u30 : Value) (u31 : Value) (u32 : Value) (u33 : Value) (u34 : Value) (u35 : Value) (u36 : Value) (u37 : Value) (u38 : Value) (u39 : Value) (u40 : Value) (u41 : Value) (u42 : Value) (u43 : Value) (u44 : Value) (u45 : Value) (u46 : Value) {A : Nat → Prop} (hA : ∀ q, s.heap.size ≤ q → A q) (hA' : ∀ q, A q → s.heap.size ≤ q) (H : Heap) (locs : List Loc) (hS : va_S A s.heap H locs) (hP : zP g [(x0, .inr (8, [w0, w1, w2, w3, w4, w5, w6, w7, w8, w9, w10, .int 0, .int 0])), (m0, .inr (9, [.int 0, u1, u2, u3, u4, .int 0, .int 0, .int 0, .int 0, u9, u10, u11, u12, u13, u14, u15, .int 0, u17, u18, u19, u20, u21, u22, u23, u24, u25, u26, u27, u28, u29, u30, u31, u32, u33, u34, u35, u36, u37, u38, u39, u40, u41, u42, u43, u44, u45, u46]))] H) (hD : va_D A [(x0, .inr (8, [w0, w1, w2, w3, w4, w5, w6, w7, w8, w9, w10, .int 0, .int 0])), (m0, .inr (9, [.int 0, u1, u2, u3, u4, .int 0, .int 0, .int 0, .int 0, u9, u10, u11, u12, u13, u14, u15, .int 0, u17, u18, u19, u20, u21, u22, u23, u24, u25, u26, u27, u28, u29, u30, u31, u32, u33, u34, u35, u36, u37, u38, u39, u40, u41, u42, u43, u44, u45, u46]))]) (ls : Array Slot) (hl : lv_has ls 4 [(0, .ref b), (1, .ref x0), (2, .ref m0), (3, .int 0)]) : W p l e room_1 s m #[Value.ref b] below meth c H locs 210 203560 (lw_Z below #[Value.ref b] s) (F0 m 569 ls []) := by
  obtain ⟨hx, hb, hr, hml, hown, hts, hX, hbl, hlocks, hgv⟩ := C0
  have hg : ∀ w ∈ zGW, w.before #[Value.ref b] s = true := fun w h => hts w (List.mem_filter.mp h).1
  have hown : s.vm.findClass RL = some m.cls := hown
  have hbA : ¬ A b := fun h => absurd (hA' b h) (Nat.not_le.mpr hbl)
  refine lv_aload_n hx hb dL_law_569 rfl (lv_at hl 1 rfl) ?_
  refine lv_aload_n hx hb dL_law_570 rfl (lv_at hl 0 rfl) ?_
  refine lv_iload_n hx hb dL_law_571 rfl (lv_at hl 3 rfl) ?_
  refine lv_iconst (v := 1) hx hb dL_law_572 (by decide) ?_
  refine lv_iadd hx hb dL_law_573 ?_
  refine lv_topi (fun x1 ex1 => ?_)
  obtain rfl : x1 = 1 := ex1.trans (by decide)
  refine va_sld hx hb hX hbl hbA hS (z_in (by decide : (1 : Int32).toInt = 1) (by omega) (by omega)) dL_law_574 ?_
  refine W.eq (g2 := F0 m 575 ls [.int (xs 1), .ref x0]) rfl ?_
  refine lv_aload_n hx hb dL_law_575 rfl (lv_at hl 0 rfl) ?_
  refine lv_iload_n hx hb dL_law_576 rfl (lv_at hl 3 rfl) ?_
  refine lv_iconst (v := 2) hx hb dL_law_577 (by decide) ?_
  refine lv_iadd hx hb dL_law_578 ?_
  refine lv_topi (fun x2 ex2 => ?_)
  obtain rfl : x2 = 2 := ex2.trans (by decide)
  refine va_sld hx hb hX hbl hbA hS (z_in (by decide : (2 : Int32).toInt = 2) (by omega) (by omega)) dL_law_579 ?_
  refine W.eq (g2 := F0 m 580 ls [.int (xs 2), .int (xs 1), .ref x0]) rfl ?_
  refine lv_aload_n hx hb dL_law_580 rfl (lv_at hl 0 rfl) ?_
  refine lv_iload_n hx hb dL_law_581 rfl (lv_at hl 3 rfl) ?_
  refine lv_iconst (v := 3) hx hb dL_law_582 (by decide) ?_
  refine lv_iadd hx hb dL_law_583 ?_
  refine lv_topi (fun x3 ex3 => ?_)
  obtain rfl : x3 = 3 := ex3.trans (by decide)
  refine va_sld hx hb hX hbl hbA hS (z_in (by decide : (3 : Int32).toInt = 3) (by omega) (by omega)) dL_law_584 ?_
  refine W.eq (g2 := F0 m 585 ls [.int (xs 3), .int (xs 2), .int (xs 1), .ref x0]) rfl ?_
  refine lv_aload_n hx hb dL_law_585 rfl (lv_at hl 0 rfl) ?_
  refine lv_iload_n hx hb dL_law_586 rfl (lv_at hl 3 rfl) ?_
  refine lv_iconst (v := 4) hx hb dL_law_587 (by decide) ?_
  refine lv_iadd hx hb dL_law_588 ?_
  refine lv_topi (fun x4 ex4 => ?_)
  obtain rfl : x4 = 4 := ex4.trans (by decide)
  refine va_sld hx hb hX hbl hbA hS (z_in (by decide : (4 : Int32).toInt = 4) (by omega) (by omega)) dL_law_589 ?_
  refine W.eq (g2 := F0 m 590 ls [.int (xs 4), .int (xs 3), .int (xs 2), .int (xs 1), .ref x0]) rfl ?_
  have hPc := hP.sub (ws' := [(x0, .inr (8, [w0, w1, w2, w3, w4, w5, w6, w7, w8, w9, w10, .int 0, .int 0]))]) [0] rfl
  refine zc_i (va_runV (As := [.int (xs 1), .int (xs 2), .int (xs 3), .int (xs 4)]) (rest := []) ⟨hx, hb, hml, hown, hg⟩ (c_X8_swap l g x0 (w0 : Value) (w1 : Value) (w2 : Value) (w3 : Value) (w4 : Value) (w5 : Value) (w6 : Value) (w7 : Value) (w8 : Value) (w9 : Value) (w10 : Value) (xs 1) (xs 2) (xs 3) (xs 4) ) (cwV 4 hg (z_gV mm_595 mm_596 mm_597 mm_108 mm_598) rfl rfl rfl (by decide +kernel) ⟨Nat.le_of_ble_eq_true rfl, Nat.le_of_ble_eq_true rfl⟩) ⟨(zR.pre [.ref x0, .int (xs 1), .int (xs 2), .int (xs 3), .int (xs 4)] hPc hK hN).1, va_recv hK hPc (ci := 8) (q0 := 0) rfl rfl, (zR.pre [.ref x0, .int (xs 1), .int (xs 2), .int (xs 3), .int (xs 4)] hPc hK hN).2⟩ rfl rfl hl.1 rfl (lv_room (Nat.le_of_ble_eq_true rfl)) dL_law_590 ⟨Nat.le_of_ble_eq_true rfl, Nat.le_of_ble_eq_true rfl⟩) (fun r5 hr5 => ?_)
  obtain rfl := hr5
  refine lv_aload_n hx hb dL_law_593 rfl (lv_at hl 2 rfl) ?_
  refine lv_aload_n hx hb dL_law_594 rfl (lv_at hl 0 rfl) ?_
  refine lv_iload_n hx hb dL_law_595 rfl (lv_at hl 3 rfl) ?_
  refine lv_iconst (v := 1) hx hb dL_law_596 (by decide) ?_
  refine lv_iadd hx hb dL_law_597 ?_
  refine lv_topi (fun x6 ex6 => ?_)
  obtain rfl : x6 = 1 := ex6.trans (by decide)
  refine va_sld hx hb hX hbl hbA hS (z_in (by decide : (1 : Int32).toInt = 1) (by omega) (by omega)) dL_law_598 ?_
  refine W.eq (g2 := F0 m 599 ls [.int (xs 1), .ref m0, .int 0]) rfl ?_
  refine lv_aload_n hx hb dL_law_599 rfl (lv_at hl 0 rfl) ?_
  refine lv_iload_n hx hb dL_law_600 rfl (lv_at hl 3 rfl) ?_
  refine lv_iconst (v := 2) hx hb dL_law_601 (by decide) ?_
  refine lv_iadd hx hb dL_law_602 ?_
  refine lv_topi (fun x7 ex7 => ?_)
  obtain rfl : x7 = 2 := ex7.trans (by decide)
  refine va_sld hx hb hX hbl hbA hS (z_in (by decide : (2 : Int32).toInt = 2) (by omega) (by omega)) dL_law_603 ?_
  refine W.eq (g2 := F0 m 604 ls [.int (xs 2), .int (xs 1), .ref m0, .int 0]) rfl ?_
  refine lv_aload_n hx hb dL_law_604 rfl (lv_at hl 0 rfl) ?_
  refine lv_iload_n hx hb dL_law_605 rfl (lv_at hl 3 rfl) ?_
  refine lv_iconst (v := 3) hx hb dL_law_606 (by decide) ?_
  refine lv_iadd hx hb dL_law_607 ?_
  refine lv_topi (fun x8 ex8 => ?_)
  obtain rfl : x8 = 3 := ex8.trans (by decide)
  refine va_sld hx hb hX hbl hbA hS (z_in (by decide : (3 : Int32).toInt = 3) (by omega) (by omega)) dL_law_608 ?_
  refine W.eq (g2 := F0 m 609 ls [.int (xs 3), .int (xs 2), .int (xs 1), .ref m0, .int 0]) rfl ?_
  refine lv_aload_n hx hb dL_law_609 rfl (lv_at hl 0 rfl) ?_
  refine lv_iload_n hx hb dL_law_610 rfl (lv_at hl 3 rfl) ?_
  refine lv_iconst (v := 4) hx hb dL_law_611 (by decide) ?_
  refine lv_iadd hx hb dL_law_612 ?_
  refine lv_topi (fun x9 ex9 => ?_)
  obtain rfl : x9 = 4 := ex9.trans (by decide)
  refine va_sld hx hb hX hbl hbA hS (z_in (by decide : (4 : Int32).toInt = 4) (by omega) (by omega)) dL_law_613 ?_
  refine W.eq (g2 := F0 m 614 ls [.int (xs 4), .int (xs 3), .int (xs 2), .int (xs 1), .ref m0, .int 0]) rfl ?_
  have hPc := hP.sub (ws' := [(m0, .inr (9, [.int 0, u1, u2, u3, u4, .int 0, .int 0, .int 0, .int 0, u9, u10, u11, u12, u13, u14, u15, .int 0, u17, u18, u19, u20, u21, u22, u23, u24, u25, u26, u27, u28, u29, u30, u31, u32, u33, u34, u35, u36, u37, u38, u39, u40, u41, u42, u43, u44, u45, u46]))]) [1] rfl
  refine zc_i (va_runV (As := [.int (xs 1), .int (xs 2), .int (xs 3), .int (xs 4)]) (rest := [.int 0]) ⟨hx, hb, hml, hown, hg⟩ (c_X9_swap l g m0 (u1 : Value) (u2 : Value) (u3 : Value) (u4 : Value) (u9 : Value) (u10 : Value) (u11 : Value) (u12 : Value) (u13 : Value) (u14 : Value) (u15 : Value) (u17 : Value) (u18 : Value) (u19 : Value) (u20 : Value) (u21 : Value) (u22 : Value) (u23 : Value) (u24 : Value) (u25 : Value) (u26 : Value) (u27 : Value) (u28 : Value) (u29 : Value) (u30 : Value) (u31 : Value) (u32 : Value) (u33 : Value) (u34 : Value) (u35 : Value) (u36 : Value) (u37 : Value) (u38 : Value) (u39 : Value) (u40 : Value) (u41 : Value) (u42 : Value) (u43 : Value) (u44 : Value) (u45 : Value) (u46 : Value) (xs 1) (xs 2) (xs 3) (xs 4) ) (cwV 4 hg (z_gV mm_1178 mm_1179 mm_1180 mm_117 mm_1181) rfl rfl rfl (by decide +kernel) ⟨Nat.le_of_ble_eq_true rfl, Nat.le_of_ble_eq_true rfl⟩) ⟨(zR.pre [.ref m0, .int (xs 1), .int (xs 2), .int (xs 3), .int (xs 4)] hPc hK hN).1, va_recv hK hPc (ci := 9) (q0 := 0) rfl rfl, (zR.pre [.ref m0, .int (xs 1), .int (xs 2), .int (xs 3), .int (xs 4)] hPc hK hN).2⟩ rfl rfl hl.1 rfl (lv_room (Nat.le_of_ble_eq_true rfl)) dL_law_614 ⟨Nat.le_of_ble_eq_true rfl, Nat.le_of_ble_eq_true rfl⟩) (fun r10 hr10 => ?_)
  obtain rfl := hr10
  refine lv_icmp_eq (tgt := 1533) hx hb dL_law_617 (by decide) (fun c11 => ?_) (fun c11 => ?_)
  · skip
    refine lv_iinc (v := 6) (lv' := [(3, .int 6), (0, .ref b), (1, .ref x0), (2, .ref m0)]) hx hb dL_law_1533 hl (k := 3) rfl (by decide) (by decide) rfl (fun ls hl => ?_)
    refine lv_goto (tgt := 18) hx hb dL_law_1536 (by decide) ?_
    refine lv_iload_n hx hb dL_law_18 rfl (lv_at hl 0 rfl) ?_
    refine lv_aload_n hx hb dL_law_19 rfl (lv_at hl 1 rfl) ?_
    refine va_slen hx hb hX hbl hbA hS dL_law_20 ?_
    refine W.eq (g2 := F0 m 21 ls [.int 6, .int 6]) rfl ?_
    refine lv_bipush (v := 6) hx hb dL_law_21 (by decide) ?_
    refine lv_isub hx hb dL_law_23 ?_
    refine lv_topi (fun x12 ex12 => ?_)
    obtain rfl : x12 = 0 := ex12.trans (by decide)
    refine lv_icmp_gt (tgt := 1539) hx hb dL_law_24 (by decide) (fun c13 => ?_) (fun c13 => ?_)
    · skip
      refine lv_iconst (v := 1) hx hb dL_law_1539 (by decide) ?_
      refine va_forget (fun q hq => hA' _ (hS.2.2 q hq)) ?_
      refine W.widen (k := 600000) (n := 7302250) (Nat.le_of_ble_eq_true rfl) (Nat.le_of_ble_eq_true rfl) ?_
      exact lw_ret hx hb hr hlocks dL_law_1540
    · skip
      exact absurd c13 (by decide)
  · skip
    exact absurd c11 (by decide)

set_option maxHeartbeats 4000000 in
set_option maxRecDepth 100000 in
theorem op_show {p : Program} {e : Env} {s : State} {m : MethodId} {below : List Frame} {meth : Method} {c : Code} (l : Launch) {b : Nat} {xs : Nat → Int32} (C0 : lw_At p s m meth c b 6 xs) (g : zG) (hK : zK g s) (hN : zN s) (x0 : Nat) (w0 : Value) (w1 : Value) (w2 : Value) (w3 : Value) (w4 : Value) (w5 : Value) (w6 : Value) (w7 : Value) (w8 : Value) (w9 : Value) (w10 : Value) (m0 : Nat) (u1 : Value) (u2 : Value) (u3 : Value) (u4 : Value) (u9 : Value) (u10 : Value) (u11 : Value) (u12 : Value) (u13 : Value) (u14 : Value) (u15 : Value) (u17 : Value) (u18 : Value) (u19 : Value) (u20 : Value) (u21 : Value) (u22 : Value) (u23 : Value) (u24 : Value) (u25 : Value) (u26 : Value) (u27 : Value) (u28 : Value) (u29 : Value) (u30 : Value) (u31 : Value) (u32 : Value) (u33 : Value) (u34 : Value) (u35 : Value) (u36 : Value) (u37 : Value) (u38 : Value) (u39 : Value) (u40 : Value) (u41 : Value) (u42 : Value) (u43 : Value) (u44 : Value) (u45 : Value) (u46 : Value) {A : Nat → Prop} (hA : ∀ q, s.heap.size ≤ q → A q) (hA' : ∀ q, A q → s.heap.size ≤ q) (H : Heap) (locs : List Loc) (hS : va_S A s.heap H locs) (hP : zP g [(x0, .inr (8, [w0, w1, w2, w3, w4, w5, w6, w7, w8, w9, w10, .int 0, .int 0])), (m0, .inr (9, [.int 0, u1, u2, u3, u4, .int 0, .int 0, .int 0, .int 0, u9, u10, u11, u12, u13, u14, u15, .int 0, u17, u18, u19, u20, u21, u22, u23, u24, u25, u26, u27, u28, u29, u30, u31, u32, u33, u34, u35, u36, u37, u38, u39, u40, u41, u42, u43, u44, u45, u46]))] H) (hD : va_D A [(x0, .inr (8, [w0, w1, w2, w3, w4, w5, w6, w7, w8, w9, w10, .int 0, .int 0])), (m0, .inr (9, [.int 0, u1, u2, u3, u4, .int 0, .int 0, .int 0, .int 0, u9, u10, u11, u12, u13, u14, u15, .int 0, u17, u18, u19, u20, u21, u22, u23, u24, u25, u26, u27, u28, u29, u30, u31, u32, u33, u34, u35, u36, u37, u38, u39, u40, u41, u42, u43, u44, u45, u46]))]) (ls : Array Slot) (hl : lv_has ls 4 [(0, .ref b), (1, .ref x0), (2, .ref m0), (3, .int 0)]) : W p l e room_1 s m #[Value.ref b] below meth c H locs 210 203560 (lw_Z below #[Value.ref b] s) (F0 m 622 ls []) := by
  obtain ⟨hx, hb, hr, hml, hown, hts, hX, hbl, hlocks, hgv⟩ := C0
  have hg : ∀ w ∈ zGW, w.before #[Value.ref b] s = true := fun w h => hts w (List.mem_filter.mp h).1
  have hown : s.vm.findClass RL = some m.cls := hown
  have hbA : ¬ A b := fun h => absurd (hA' b h) (Nat.not_le.mpr hbl)
  refine lv_aload_n hx hb dL_law_622 rfl (lv_at hl 1 rfl) ?_
  refine lv_aload_n hx hb dL_law_623 rfl (lv_at hl 0 rfl) ?_
  refine lv_iload_n hx hb dL_law_624 rfl (lv_at hl 3 rfl) ?_
  refine lv_iconst (v := 1) hx hb dL_law_625 (by decide) ?_
  refine lv_iadd hx hb dL_law_626 ?_
  refine lv_topi (fun x1 ex1 => ?_)
  obtain rfl : x1 = 1 := ex1.trans (by decide)
  refine va_sld hx hb hX hbl hbA hS (z_in (by decide : (1 : Int32).toInt = 1) (by omega) (by omega)) dL_law_627 ?_
  refine W.eq (g2 := F0 m 628 ls [.int (xs 1), .ref x0]) rfl ?_
  refine lv_aload_n hx hb dL_law_628 rfl (lv_at hl 0 rfl) ?_
  refine lv_iload_n hx hb dL_law_629 rfl (lv_at hl 3 rfl) ?_
  refine lv_iconst (v := 2) hx hb dL_law_630 (by decide) ?_
  refine lv_iadd hx hb dL_law_631 ?_
  refine lv_topi (fun x2 ex2 => ?_)
  obtain rfl : x2 = 2 := ex2.trans (by decide)
  refine va_sld hx hb hX hbl hbA hS (z_in (by decide : (2 : Int32).toInt = 2) (by omega) (by omega)) dL_law_632 ?_
  refine W.eq (g2 := F0 m 633 ls [.int (xs 2), .int (xs 1), .ref x0]) rfl ?_
  refine lv_if_eq (tgt := 640) hx hb dL_law_633 (by decide) (fun c3 => ?_) (fun c3 => ?_)
  · skip
    have c3 : (xs 2).toInt = 0 := (z_eq rfl (by decide : (0 : Int32).toInt = 0)).mp c3
    refine lv_iconst (v := 0) hx hb dL_law_640 (by decide) ?_
    have hPc := hP.sub (ws' := [(x0, .inr (8, [w0, w1, w2, w3, w4, w5, w6, w7, w8, w9, w10, .int 0, .int 0]))]) [0] rfl
    refine zc_i (va_runV (As := [.int (xs 1), .int 0]) (rest := []) ⟨hx, hb, hml, hown, hg⟩ (c_X8_show l g x0 (w0 : Value) (w1 : Value) (w2 : Value) (w3 : Value) (w4 : Value) (w5 : Value) (w6 : Value) (w7 : Value) (w8 : Value) (w9 : Value) (w10 : Value) (xs 1) (0 : Int32) ) (cwV 2 hg (z_gV mm_609 mm_610 mm_611 mm_108 mm_612) rfl rfl rfl (by decide +kernel) ⟨Nat.le_of_ble_eq_true rfl, Nat.le_of_ble_eq_true rfl⟩) ⟨(zR.pre [.ref x0, .int (xs 1), .int 0] hPc hK hN).1, va_recv hK hPc (ci := 8) (q0 := 0) rfl rfl, (zR.pre [.ref x0, .int (xs 1), .int 0] hPc hK hN).2⟩ rfl rfl hl.1 rfl (lv_room (Nat.le_of_ble_eq_true rfl)) dL_law_641 ⟨Nat.le_of_ble_eq_true rfl, Nat.le_of_ble_eq_true rfl⟩) (fun r4 hr4 => ?_)
    obtain rfl := hr4
    refine lv_aload_n hx hb dL_law_644 rfl (lv_at hl 2 rfl) ?_
    refine lv_aload_n hx hb dL_law_645 rfl (lv_at hl 0 rfl) ?_
    refine lv_iload_n hx hb dL_law_646 rfl (lv_at hl 3 rfl) ?_
    refine lv_iconst (v := 1) hx hb dL_law_647 (by decide) ?_
    refine lv_iadd hx hb dL_law_648 ?_
    refine lv_topi (fun x5 ex5 => ?_)
    obtain rfl : x5 = 1 := ex5.trans (by decide)
    refine va_sld hx hb hX hbl hbA hS (z_in (by decide : (1 : Int32).toInt = 1) (by omega) (by omega)) dL_law_649 ?_
    refine W.eq (g2 := F0 m 650 ls [.int (xs 1), .ref m0, .int 0]) rfl ?_
    refine lv_aload_n hx hb dL_law_650 rfl (lv_at hl 0 rfl) ?_
    refine lv_iload_n hx hb dL_law_651 rfl (lv_at hl 3 rfl) ?_
    refine lv_iconst (v := 2) hx hb dL_law_652 (by decide) ?_
    refine lv_iadd hx hb dL_law_653 ?_
    refine lv_topi (fun x6 ex6 => ?_)
    obtain rfl : x6 = 2 := ex6.trans (by decide)
    refine va_sld hx hb hX hbl hbA hS (z_in (by decide : (2 : Int32).toInt = 2) (by omega) (by omega)) dL_law_654 ?_
    refine W.eq (g2 := F0 m 655 ls [.int (xs 2), .int (xs 1), .ref m0, .int 0]) rfl ?_
    refine lv_if_eq (tgt := 662) hx hb dL_law_655 (by decide) (fun c7 => ?_) (fun c7 => ?_)
    · skip
      have c7 : (xs 2).toInt = 0 := (z_eq rfl (by decide : (0 : Int32).toInt = 0)).mp c7
      refine lv_iconst (v := 0) hx hb dL_law_662 (by decide) ?_
      have hPc := hP.sub (ws' := [(m0, .inr (9, [.int 0, u1, u2, u3, u4, .int 0, .int 0, .int 0, .int 0, u9, u10, u11, u12, u13, u14, u15, .int 0, u17, u18, u19, u20, u21, u22, u23, u24, u25, u26, u27, u28, u29, u30, u31, u32, u33, u34, u35, u36, u37, u38, u39, u40, u41, u42, u43, u44, u45, u46]))]) [1] rfl
      refine zc_i (va_runV (As := [.int (xs 1), .int 0]) (rest := [.int 0]) ⟨hx, hb, hml, hown, hg⟩ (c_X9_show l g m0 (u1 : Value) (u2 : Value) (u3 : Value) (u4 : Value) (u9 : Value) (u10 : Value) (u11 : Value) (u12 : Value) (u13 : Value) (u14 : Value) (u15 : Value) (u17 : Value) (u18 : Value) (u19 : Value) (u20 : Value) (u21 : Value) (u22 : Value) (u23 : Value) (u24 : Value) (u25 : Value) (u26 : Value) (u27 : Value) (u28 : Value) (u29 : Value) (u30 : Value) (u31 : Value) (u32 : Value) (u33 : Value) (u34 : Value) (u35 : Value) (u36 : Value) (u37 : Value) (u38 : Value) (u39 : Value) (u40 : Value) (u41 : Value) (u42 : Value) (u43 : Value) (u44 : Value) (u45 : Value) (u46 : Value) (xs 1) (0 : Int32) ) (cwV 2 hg (z_gV mm_1190 mm_1191 mm_1192 mm_117 mm_1193) rfl rfl rfl (by decide +kernel) ⟨Nat.le_of_ble_eq_true rfl, Nat.le_of_ble_eq_true rfl⟩) ⟨(zR.pre [.ref m0, .int (xs 1), .int 0] hPc hK hN).1, va_recv hK hPc (ci := 9) (q0 := 0) rfl rfl, (zR.pre [.ref m0, .int (xs 1), .int 0] hPc hK hN).2⟩ rfl rfl hl.1 rfl (lv_room (Nat.le_of_ble_eq_true rfl)) dL_law_663 ⟨Nat.le_of_ble_eq_true rfl, Nat.le_of_ble_eq_true rfl⟩) (fun r8 hr8 => ?_)
      obtain rfl := hr8
      refine lv_icmp_eq (tgt := 1533) hx hb dL_law_666 (by decide) (fun c9 => ?_) (fun c9 => ?_)
      · skip
        refine lv_iinc (v := 6) (lv' := [(3, .int 6), (0, .ref b), (1, .ref x0), (2, .ref m0)]) hx hb dL_law_1533 hl (k := 3) rfl (by decide) (by decide) rfl (fun ls hl => ?_)
        refine lv_goto (tgt := 18) hx hb dL_law_1536 (by decide) ?_
        refine lv_iload_n hx hb dL_law_18 rfl (lv_at hl 0 rfl) ?_
        refine lv_aload_n hx hb dL_law_19 rfl (lv_at hl 1 rfl) ?_
        refine va_slen hx hb hX hbl hbA hS dL_law_20 ?_
        refine W.eq (g2 := F0 m 21 ls [.int 6, .int 6]) rfl ?_
        refine lv_bipush (v := 6) hx hb dL_law_21 (by decide) ?_
        refine lv_isub hx hb dL_law_23 ?_
        refine lv_topi (fun x10 ex10 => ?_)
        obtain rfl : x10 = 0 := ex10.trans (by decide)
        refine lv_icmp_gt (tgt := 1539) hx hb dL_law_24 (by decide) (fun c11 => ?_) (fun c11 => ?_)
        · skip
          refine lv_iconst (v := 1) hx hb dL_law_1539 (by decide) ?_
          refine va_forget (fun q hq => hA' _ (hS.2.2 q hq)) ?_
          refine W.widen (k := 600000) (n := 7302250) (Nat.le_of_ble_eq_true rfl) (Nat.le_of_ble_eq_true rfl) ?_
          exact lw_ret hx hb hr hlocks dL_law_1540
        · skip
          exact absurd c11 (by decide)
      · skip
        exact absurd c9 (by decide)
    · skip
      have c7 : ¬ ((xs 2).toInt = 0) := fun q => c7 ((z_eq rfl (by decide : (0 : Int32).toInt = 0)).mpr q)
      exfalso
      omega
  · skip
    have c3 : ¬ ((xs 2).toInt = 0) := fun q => c3 ((z_eq rfl (by decide : (0 : Int32).toInt = 0)).mpr q)
    refine lv_iconst (v := 1) hx hb dL_law_636 (by decide) ?_
    refine lv_goto (tgt := 641) hx hb dL_law_637 (by decide) ?_
    have hPc := hP.sub (ws' := [(x0, .inr (8, [w0, w1, w2, w3, w4, w5, w6, w7, w8, w9, w10, .int 0, .int 0]))]) [0] rfl
    refine zc_i (va_runV (As := [.int (xs 1), .int 1]) (rest := []) ⟨hx, hb, hml, hown, hg⟩ (c_X8_show l g x0 (w0 : Value) (w1 : Value) (w2 : Value) (w3 : Value) (w4 : Value) (w5 : Value) (w6 : Value) (w7 : Value) (w8 : Value) (w9 : Value) (w10 : Value) (xs 1) (1 : Int32) ) (cwV 2 hg (z_gV mm_609 mm_610 mm_611 mm_108 mm_612) rfl rfl rfl (by decide +kernel) ⟨Nat.le_of_ble_eq_true rfl, Nat.le_of_ble_eq_true rfl⟩) ⟨(zR.pre [.ref x0, .int (xs 1), .int 1] hPc hK hN).1, va_recv hK hPc (ci := 8) (q0 := 0) rfl rfl, (zR.pre [.ref x0, .int (xs 1), .int 1] hPc hK hN).2⟩ rfl rfl hl.1 rfl (lv_room (Nat.le_of_ble_eq_true rfl)) dL_law_641 ⟨Nat.le_of_ble_eq_true rfl, Nat.le_of_ble_eq_true rfl⟩) (fun r12 hr12 => ?_)
    obtain rfl := hr12
    refine lv_aload_n hx hb dL_law_644 rfl (lv_at hl 2 rfl) ?_
    refine lv_aload_n hx hb dL_law_645 rfl (lv_at hl 0 rfl) ?_
    refine lv_iload_n hx hb dL_law_646 rfl (lv_at hl 3 rfl) ?_
    refine lv_iconst (v := 1) hx hb dL_law_647 (by decide) ?_
    refine lv_iadd hx hb dL_law_648 ?_
    refine lv_topi (fun x13 ex13 => ?_)
    obtain rfl : x13 = 1 := ex13.trans (by decide)
    refine va_sld hx hb hX hbl hbA hS (z_in (by decide : (1 : Int32).toInt = 1) (by omega) (by omega)) dL_law_649 ?_
    refine W.eq (g2 := F0 m 650 ls [.int (xs 1), .ref m0, .int 0]) rfl ?_
    refine lv_aload_n hx hb dL_law_650 rfl (lv_at hl 0 rfl) ?_
    refine lv_iload_n hx hb dL_law_651 rfl (lv_at hl 3 rfl) ?_
    refine lv_iconst (v := 2) hx hb dL_law_652 (by decide) ?_
    refine lv_iadd hx hb dL_law_653 ?_
    refine lv_topi (fun x14 ex14 => ?_)
    obtain rfl : x14 = 2 := ex14.trans (by decide)
    refine va_sld hx hb hX hbl hbA hS (z_in (by decide : (2 : Int32).toInt = 2) (by omega) (by omega)) dL_law_654 ?_
    refine W.eq (g2 := F0 m 655 ls [.int (xs 2), .int (xs 1), .ref m0, .int 0]) rfl ?_
    refine lv_if_eq (tgt := 662) hx hb dL_law_655 (by decide) (fun c15 => ?_) (fun c15 => ?_)
    · skip
      have c15 : (xs 2).toInt = 0 := (z_eq rfl (by decide : (0 : Int32).toInt = 0)).mp c15
      exfalso
      omega
    · skip
      have c15 : ¬ ((xs 2).toInt = 0) := fun q => c15 ((z_eq rfl (by decide : (0 : Int32).toInt = 0)).mpr q)
      refine lv_iconst (v := 1) hx hb dL_law_658 (by decide) ?_
      refine lv_goto (tgt := 663) hx hb dL_law_659 (by decide) ?_
      have hPc := hP.sub (ws' := [(m0, .inr (9, [.int 0, u1, u2, u3, u4, .int 0, .int 0, .int 0, .int 0, u9, u10, u11, u12, u13, u14, u15, .int 0, u17, u18, u19, u20, u21, u22, u23, u24, u25, u26, u27, u28, u29, u30, u31, u32, u33, u34, u35, u36, u37, u38, u39, u40, u41, u42, u43, u44, u45, u46]))]) [1] rfl
      refine zc_i (va_runV (As := [.int (xs 1), .int 1]) (rest := [.int 0]) ⟨hx, hb, hml, hown, hg⟩ (c_X9_show l g m0 (u1 : Value) (u2 : Value) (u3 : Value) (u4 : Value) (u9 : Value) (u10 : Value) (u11 : Value) (u12 : Value) (u13 : Value) (u14 : Value) (u15 : Value) (u17 : Value) (u18 : Value) (u19 : Value) (u20 : Value) (u21 : Value) (u22 : Value) (u23 : Value) (u24 : Value) (u25 : Value) (u26 : Value) (u27 : Value) (u28 : Value) (u29 : Value) (u30 : Value) (u31 : Value) (u32 : Value) (u33 : Value) (u34 : Value) (u35 : Value) (u36 : Value) (u37 : Value) (u38 : Value) (u39 : Value) (u40 : Value) (u41 : Value) (u42 : Value) (u43 : Value) (u44 : Value) (u45 : Value) (u46 : Value) (xs 1) (1 : Int32) ) (cwV 2 hg (z_gV mm_1190 mm_1191 mm_1192 mm_117 mm_1193) rfl rfl rfl (by decide +kernel) ⟨Nat.le_of_ble_eq_true rfl, Nat.le_of_ble_eq_true rfl⟩) ⟨(zR.pre [.ref m0, .int (xs 1), .int 1] hPc hK hN).1, va_recv hK hPc (ci := 9) (q0 := 0) rfl rfl, (zR.pre [.ref m0, .int (xs 1), .int 1] hPc hK hN).2⟩ rfl rfl hl.1 rfl (lv_room (Nat.le_of_ble_eq_true rfl)) dL_law_663 ⟨Nat.le_of_ble_eq_true rfl, Nat.le_of_ble_eq_true rfl⟩) (fun r16 hr16 => ?_)
      obtain rfl := hr16
      refine lv_icmp_eq (tgt := 1533) hx hb dL_law_666 (by decide) (fun c17 => ?_) (fun c17 => ?_)
      · skip
        refine lv_iinc (v := 6) (lv' := [(3, .int 6), (0, .ref b), (1, .ref x0), (2, .ref m0)]) hx hb dL_law_1533 hl (k := 3) rfl (by decide) (by decide) rfl (fun ls hl => ?_)
        refine lv_goto (tgt := 18) hx hb dL_law_1536 (by decide) ?_
        refine lv_iload_n hx hb dL_law_18 rfl (lv_at hl 0 rfl) ?_
        refine lv_aload_n hx hb dL_law_19 rfl (lv_at hl 1 rfl) ?_
        refine va_slen hx hb hX hbl hbA hS dL_law_20 ?_
        refine W.eq (g2 := F0 m 21 ls [.int 6, .int 6]) rfl ?_
        refine lv_bipush (v := 6) hx hb dL_law_21 (by decide) ?_
        refine lv_isub hx hb dL_law_23 ?_
        refine lv_topi (fun x18 ex18 => ?_)
        obtain rfl : x18 = 0 := ex18.trans (by decide)
        refine lv_icmp_gt (tgt := 1539) hx hb dL_law_24 (by decide) (fun c19 => ?_) (fun c19 => ?_)
        · skip
          refine lv_iconst (v := 1) hx hb dL_law_1539 (by decide) ?_
          refine va_forget (fun q hq => hA' _ (hS.2.2 q hq)) ?_
          refine W.widen (k := 600000) (n := 7302250) (Nat.le_of_ble_eq_true rfl) (Nat.le_of_ble_eq_true rfl) ?_
          exact lw_ret hx hb hr hlocks dL_law_1540
        · skip
          exact absurd c19 (by decide)
      · skip
        exact absurd c17 (by decide)

set_option maxHeartbeats 4000000 in
set_option maxRecDepth 100000 in
theorem op_link {p : Program} {e : Env} {s : State} {m : MethodId} {below : List Frame} {meth : Method} {c : Code} (l : Launch) {b : Nat} {xs : Nat → Int32} (C0 : lw_At p s m meth c b 6 xs) (g : zG) (hK : zK g s) (hN : zN s) (x0 : Nat) (w0 : Value) (w1 : Value) (w2 : Value) (w3 : Value) (w4 : Value) (w5 : Value) (w6 : Value) (w7 : Value) (w8 : Value) (w9 : Value) (w10 : Value) (m0 : Nat) (u1 : Value) (u2 : Value) (u3 : Value) (u4 : Value) (u9 : Value) (u10 : Value) (u11 : Value) (u12 : Value) (u13 : Value) (u14 : Value) (u15 : Value) (u17 : Value) (u18 : Value) (u19 : Value) (u20 : Value) (u21 : Value) (u22 : Value) (u23 : Value) (u24 : Value) (u25 : Value) (u26 : Value) (u27 : Value) (u28 : Value) (u29 : Value) (u30 : Value) (u31 : Value) (u32 : Value) (u33 : Value) (u34 : Value) (u35 : Value) (u36 : Value) (u37 : Value) (u38 : Value) (u39 : Value) (u40 : Value) (u41 : Value) (u42 : Value) (u43 : Value) (u44 : Value) (u45 : Value) (u46 : Value) {A : Nat → Prop} (hA : ∀ q, s.heap.size ≤ q → A q) (hA' : ∀ q, A q → s.heap.size ≤ q) (H : Heap) (locs : List Loc) (hS : va_S A s.heap H locs) (hP : zP g [(x0, .inr (8, [w0, w1, w2, w3, w4, w5, w6, w7, w8, w9, w10, .int 0, .int 0])), (m0, .inr (9, [.int 0, u1, u2, u3, u4, .int 0, .int 0, .int 0, .int 0, u9, u10, u11, u12, u13, u14, u15, .int 0, u17, u18, u19, u20, u21, u22, u23, u24, u25, u26, u27, u28, u29, u30, u31, u32, u33, u34, u35, u36, u37, u38, u39, u40, u41, u42, u43, u44, u45, u46]))] H) (hD : va_D A [(x0, .inr (8, [w0, w1, w2, w3, w4, w5, w6, w7, w8, w9, w10, .int 0, .int 0])), (m0, .inr (9, [.int 0, u1, u2, u3, u4, .int 0, .int 0, .int 0, .int 0, u9, u10, u11, u12, u13, u14, u15, .int 0, u17, u18, u19, u20, u21, u22, u23, u24, u25, u26, u27, u28, u29, u30, u31, u32, u33, u34, u35, u36, u37, u38, u39, u40, u41, u42, u43, u44, u45, u46]))]) (ls : Array Slot) (hl : lv_has ls 4 [(0, .ref b), (1, .ref x0), (2, .ref m0), (3, .int 0)]) : W p l e room_1 s m #[Value.ref b] below meth c H locs 210 203560 (lw_Z below #[Value.ref b] s) (F0 m 671 ls []) := by
  obtain ⟨hx, hb, hr, hml, hown, hts, hX, hbl, hlocks, hgv⟩ := C0
  have hg : ∀ w ∈ zGW, w.before #[Value.ref b] s = true := fun w h => hts w (List.mem_filter.mp h).1
  have hown : s.vm.findClass RL = some m.cls := hown
  have hbA : ¬ A b := fun h => absurd (hA' b h) (Nat.not_le.mpr hbl)
  refine lv_aload_n hx hb dL_law_671 rfl (lv_at hl 1 rfl) ?_
  refine lv_aload_n hx hb dL_law_672 rfl (lv_at hl 0 rfl) ?_
  refine lv_iload_n hx hb dL_law_673 rfl (lv_at hl 3 rfl) ?_
  refine lv_iconst (v := 1) hx hb dL_law_674 (by decide) ?_
  refine lv_iadd hx hb dL_law_675 ?_
  refine lv_topi (fun x1 ex1 => ?_)
  obtain rfl : x1 = 1 := ex1.trans (by decide)
  refine va_sld hx hb hX hbl hbA hS (z_in (by decide : (1 : Int32).toInt = 1) (by omega) (by omega)) dL_law_676 ?_
  refine W.eq (g2 := F0 m 677 ls [.int (xs 1), .ref x0]) rfl ?_
  refine lv_aload_n hx hb dL_law_677 rfl (lv_at hl 0 rfl) ?_
  refine lv_iload_n hx hb dL_law_678 rfl (lv_at hl 3 rfl) ?_
  refine lv_iconst (v := 2) hx hb dL_law_679 (by decide) ?_
  refine lv_iadd hx hb dL_law_680 ?_
  refine lv_topi (fun x2 ex2 => ?_)
  obtain rfl : x2 = 2 := ex2.trans (by decide)
  refine va_sld hx hb hX hbl hbA hS (z_in (by decide : (2 : Int32).toInt = 2) (by omega) (by omega)) dL_law_681 ?_
  refine W.eq (g2 := F0 m 682 ls [.int (xs 2), .int (xs 1), .ref x0]) rfl ?_
  refine lv_aload_n hx hb dL_law_682 rfl (lv_at hl 0 rfl) ?_
  refine lv_iload_n hx hb dL_law_683 rfl (lv_at hl 3 rfl) ?_
  refine lv_iconst (v := 3) hx hb dL_law_684 (by decide) ?_
  refine lv_iadd hx hb dL_law_685 ?_
  refine lv_topi (fun x3 ex3 => ?_)
  obtain rfl : x3 = 3 := ex3.trans (by decide)
  refine va_sld hx hb hX hbl hbA hS (z_in (by decide : (3 : Int32).toInt = 3) (by omega) (by omega)) dL_law_686 ?_
  refine W.eq (g2 := F0 m 687 ls [.int (xs 3), .int (xs 2), .int (xs 1), .ref x0]) rfl ?_
  refine lv_aload_n hx hb dL_law_687 rfl (lv_at hl 0 rfl) ?_
  refine lv_iload_n hx hb dL_law_688 rfl (lv_at hl 3 rfl) ?_
  refine lv_iconst (v := 4) hx hb dL_law_689 (by decide) ?_
  refine lv_iadd hx hb dL_law_690 ?_
  refine lv_topi (fun x4 ex4 => ?_)
  obtain rfl : x4 = 4 := ex4.trans (by decide)
  refine va_sld hx hb hX hbl hbA hS (z_in (by decide : (4 : Int32).toInt = 4) (by omega) (by omega)) dL_law_691 ?_
  refine W.eq (g2 := F0 m 692 ls [.int (xs 4), .int (xs 3), .int (xs 2), .int (xs 1), .ref x0]) rfl ?_
  have hPc := hP.sub (ws' := [(x0, .inr (8, [w0, w1, w2, w3, w4, w5, w6, w7, w8, w9, w10, .int 0, .int 0]))]) [0] rfl
  refine zc_i (va_runV (As := [.int (xs 1), .int (xs 2), .int (xs 3), .int (xs 4)]) (rest := []) ⟨hx, hb, hml, hown, hg⟩ (c_X8_link l g x0 (w0 : Value) (w1 : Value) (w2 : Value) (w3 : Value) (w4 : Value) (w5 : Value) (w6 : Value) (w7 : Value) (w8 : Value) (w9 : Value) (w10 : Value) (xs 1) (xs 2) (xs 3) (xs 4) ) (cwV 4 hg (z_gV mm_613 mm_614 mm_615 mm_108 mm_616) rfl rfl rfl (by decide +kernel) ⟨Nat.le_of_ble_eq_true rfl, Nat.le_of_ble_eq_true rfl⟩) ⟨(zR.pre [.ref x0, .int (xs 1), .int (xs 2), .int (xs 3), .int (xs 4)] hPc hK hN).1, va_recv hK hPc (ci := 8) (q0 := 0) rfl rfl, (zR.pre [.ref x0, .int (xs 1), .int (xs 2), .int (xs 3), .int (xs 4)] hPc hK hN).2⟩ rfl rfl hl.1 rfl (lv_room (Nat.le_of_ble_eq_true rfl)) dL_law_692 ⟨Nat.le_of_ble_eq_true rfl, Nat.le_of_ble_eq_true rfl⟩) (fun r5 hr5 => ?_)
  obtain rfl := hr5
  refine lv_aload_n hx hb dL_law_695 rfl (lv_at hl 2 rfl) ?_
  refine lv_aload_n hx hb dL_law_696 rfl (lv_at hl 0 rfl) ?_
  refine lv_iload_n hx hb dL_law_697 rfl (lv_at hl 3 rfl) ?_
  refine lv_iconst (v := 1) hx hb dL_law_698 (by decide) ?_
  refine lv_iadd hx hb dL_law_699 ?_
  refine lv_topi (fun x6 ex6 => ?_)
  obtain rfl : x6 = 1 := ex6.trans (by decide)
  refine va_sld hx hb hX hbl hbA hS (z_in (by decide : (1 : Int32).toInt = 1) (by omega) (by omega)) dL_law_700 ?_
  refine W.eq (g2 := F0 m 701 ls [.int (xs 1), .ref m0, .int (-1)]) rfl ?_
  refine lv_aload_n hx hb dL_law_701 rfl (lv_at hl 0 rfl) ?_
  refine lv_iload_n hx hb dL_law_702 rfl (lv_at hl 3 rfl) ?_
  refine lv_iconst (v := 2) hx hb dL_law_703 (by decide) ?_
  refine lv_iadd hx hb dL_law_704 ?_
  refine lv_topi (fun x7 ex7 => ?_)
  obtain rfl : x7 = 2 := ex7.trans (by decide)
  refine va_sld hx hb hX hbl hbA hS (z_in (by decide : (2 : Int32).toInt = 2) (by omega) (by omega)) dL_law_705 ?_
  refine W.eq (g2 := F0 m 706 ls [.int (xs 2), .int (xs 1), .ref m0, .int (-1)]) rfl ?_
  refine lv_aload_n hx hb dL_law_706 rfl (lv_at hl 0 rfl) ?_
  refine lv_iload_n hx hb dL_law_707 rfl (lv_at hl 3 rfl) ?_
  refine lv_iconst (v := 3) hx hb dL_law_708 (by decide) ?_
  refine lv_iadd hx hb dL_law_709 ?_
  refine lv_topi (fun x8 ex8 => ?_)
  obtain rfl : x8 = 3 := ex8.trans (by decide)
  refine va_sld hx hb hX hbl hbA hS (z_in (by decide : (3 : Int32).toInt = 3) (by omega) (by omega)) dL_law_710 ?_
  refine W.eq (g2 := F0 m 711 ls [.int (xs 3), .int (xs 2), .int (xs 1), .ref m0, .int (-1)]) rfl ?_
  refine lv_aload_n hx hb dL_law_711 rfl (lv_at hl 0 rfl) ?_
  refine lv_iload_n hx hb dL_law_712 rfl (lv_at hl 3 rfl) ?_
  refine lv_iconst (v := 4) hx hb dL_law_713 (by decide) ?_
  refine lv_iadd hx hb dL_law_714 ?_
  refine lv_topi (fun x9 ex9 => ?_)
  obtain rfl : x9 = 4 := ex9.trans (by decide)
  refine va_sld hx hb hX hbl hbA hS (z_in (by decide : (4 : Int32).toInt = 4) (by omega) (by omega)) dL_law_715 ?_
  refine W.eq (g2 := F0 m 716 ls [.int (xs 4), .int (xs 3), .int (xs 2), .int (xs 1), .ref m0, .int (-1)]) rfl ?_
  have hPc := hP.sub (ws' := [(m0, .inr (9, [.int 0, u1, u2, u3, u4, .int 0, .int 0, .int 0, .int 0, u9, u10, u11, u12, u13, u14, u15, .int 0, u17, u18, u19, u20, u21, u22, u23, u24, u25, u26, u27, u28, u29, u30, u31, u32, u33, u34, u35, u36, u37, u38, u39, u40, u41, u42, u43, u44, u45, u46]))]) [1] rfl
  refine zc_i (va_runV (As := [.int (xs 1), .int (xs 2), .int (xs 3), .int (xs 4)]) (rest := [.int (-1)]) ⟨hx, hb, hml, hown, hg⟩ (c_X9_link l g m0 (u1 : Value) (u2 : Value) (u3 : Value) (u4 : Value) (u9 : Value) (u10 : Value) (u11 : Value) (u12 : Value) (u13 : Value) (u14 : Value) (u15 : Value) (u17 : Value) (u18 : Value) (u19 : Value) (u20 : Value) (u21 : Value) (u22 : Value) (u23 : Value) (u24 : Value) (u25 : Value) (u26 : Value) (u27 : Value) (u28 : Value) (u29 : Value) (u30 : Value) (u31 : Value) (u32 : Value) (u33 : Value) (u34 : Value) (u35 : Value) (u36 : Value) (u37 : Value) (u38 : Value) (u39 : Value) (u40 : Value) (u41 : Value) (u42 : Value) (u43 : Value) (u44 : Value) (u45 : Value) (u46 : Value) (xs 1) (xs 2) (xs 3) (xs 4) ) (cwV 4 hg (z_gV mm_1194 mm_1195 mm_1196 mm_117 mm_1197) rfl rfl rfl (by decide +kernel) ⟨Nat.le_of_ble_eq_true rfl, Nat.le_of_ble_eq_true rfl⟩) ⟨(zR.pre [.ref m0, .int (xs 1), .int (xs 2), .int (xs 3), .int (xs 4)] hPc hK hN).1, va_recv hK hPc (ci := 9) (q0 := 0) rfl rfl, (zR.pre [.ref m0, .int (xs 1), .int (xs 2), .int (xs 3), .int (xs 4)] hPc hK hN).2⟩ rfl rfl hl.1 rfl (lv_room (Nat.le_of_ble_eq_true rfl)) dL_law_716 ⟨Nat.le_of_ble_eq_true rfl, Nat.le_of_ble_eq_true rfl⟩) (fun r10 hr10 => ?_)
  obtain rfl := hr10
  refine lv_icmp_eq (tgt := 1533) hx hb dL_law_719 (by decide) (fun c11 => ?_) (fun c11 => ?_)
  · skip
    refine lv_iinc (v := 6) (lv' := [(3, .int 6), (0, .ref b), (1, .ref x0), (2, .ref m0)]) hx hb dL_law_1533 hl (k := 3) rfl (by decide) (by decide) rfl (fun ls hl => ?_)
    refine lv_goto (tgt := 18) hx hb dL_law_1536 (by decide) ?_
    refine lv_iload_n hx hb dL_law_18 rfl (lv_at hl 0 rfl) ?_
    refine lv_aload_n hx hb dL_law_19 rfl (lv_at hl 1 rfl) ?_
    refine va_slen hx hb hX hbl hbA hS dL_law_20 ?_
    refine W.eq (g2 := F0 m 21 ls [.int 6, .int 6]) rfl ?_
    refine lv_bipush (v := 6) hx hb dL_law_21 (by decide) ?_
    refine lv_isub hx hb dL_law_23 ?_
    refine lv_topi (fun x12 ex12 => ?_)
    obtain rfl : x12 = 0 := ex12.trans (by decide)
    refine lv_icmp_gt (tgt := 1539) hx hb dL_law_24 (by decide) (fun c13 => ?_) (fun c13 => ?_)
    · skip
      refine lv_iconst (v := 1) hx hb dL_law_1539 (by decide) ?_
      refine va_forget (fun q hq => hA' _ (hS.2.2 q hq)) ?_
      refine W.widen (k := 600000) (n := 7302250) (Nat.le_of_ble_eq_true rfl) (Nat.le_of_ble_eq_true rfl) ?_
      exact lw_ret hx hb hr hlocks dL_law_1540
    · skip
      exact absurd c13 (by decide)
  · skip
    exact absurd c11 (by decide)

set_option maxHeartbeats 4000000 in
set_option maxRecDepth 100000 in
theorem op_gossip {p : Program} {e : Env} {s : State} {m : MethodId} {below : List Frame} {meth : Method} {c : Code} (l : Launch) {b : Nat} {xs : Nat → Int32} (C0 : lw_At p s m meth c b 6 xs) (g : zG) (hK : zK g s) (hN : zN s) (x0 : Nat) (w0 : Value) (w1 : Value) (w2 : Value) (w3 : Value) (w4 : Value) (w5 : Value) (w6 : Value) (w7 : Value) (w8 : Value) (w9 : Value) (w10 : Value) (m0 : Nat) (u1 : Value) (u2 : Value) (u3 : Value) (u4 : Value) (u9 : Value) (u10 : Value) (u11 : Value) (u12 : Value) (u13 : Value) (u14 : Value) (u15 : Value) (u17 : Value) (u18 : Value) (u19 : Value) (u20 : Value) (u21 : Value) (u22 : Value) (u23 : Value) (u24 : Value) (u25 : Value) (u26 : Value) (u27 : Value) (u28 : Value) (u29 : Value) (u30 : Value) (u31 : Value) (u32 : Value) (u33 : Value) (u34 : Value) (u35 : Value) (u36 : Value) (u37 : Value) (u38 : Value) (u39 : Value) (u40 : Value) (u41 : Value) (u42 : Value) (u43 : Value) (u44 : Value) (u45 : Value) (u46 : Value) {A : Nat → Prop} (hA : ∀ q, s.heap.size ≤ q → A q) (hA' : ∀ q, A q → s.heap.size ≤ q) (H : Heap) (locs : List Loc) (hS : va_S A s.heap H locs) (hP : zP g [(x0, .inr (8, [w0, w1, w2, w3, w4, w5, w6, w7, w8, w9, w10, .int 0, .int 0])), (m0, .inr (9, [.int 0, u1, u2, u3, u4, .int 0, .int 0, .int 0, .int 0, u9, u10, u11, u12, u13, u14, u15, .int 0, u17, u18, u19, u20, u21, u22, u23, u24, u25, u26, u27, u28, u29, u30, u31, u32, u33, u34, u35, u36, u37, u38, u39, u40, u41, u42, u43, u44, u45, u46]))] H) (hD : va_D A [(x0, .inr (8, [w0, w1, w2, w3, w4, w5, w6, w7, w8, w9, w10, .int 0, .int 0])), (m0, .inr (9, [.int 0, u1, u2, u3, u4, .int 0, .int 0, .int 0, .int 0, u9, u10, u11, u12, u13, u14, u15, .int 0, u17, u18, u19, u20, u21, u22, u23, u24, u25, u26, u27, u28, u29, u30, u31, u32, u33, u34, u35, u36, u37, u38, u39, u40, u41, u42, u43, u44, u45, u46]))]) (ls : Array Slot) (hl : lv_has ls 4 [(0, .ref b), (1, .ref x0), (2, .ref m0), (3, .int 0)]) : W p l e room_1 s m #[Value.ref b] below meth c H locs 210 203560 (lw_Z below #[Value.ref b] s) (F0 m 724 ls []) := by
  obtain ⟨hx, hb, hr, hml, hown, hts, hX, hbl, hlocks, hgv⟩ := C0
  have hg : ∀ w ∈ zGW, w.before #[Value.ref b] s = true := fun w h => hts w (List.mem_filter.mp h).1
  have hown : s.vm.findClass RL = some m.cls := hown
  have hbA : ¬ A b := fun h => absurd (hA' b h) (Nat.not_le.mpr hbl)
  refine lv_aload_n hx hb dL_law_724 rfl (lv_at hl 1 rfl) ?_
  refine lv_aload_n hx hb dL_law_725 rfl (lv_at hl 0 rfl) ?_
  refine lv_iload_n hx hb dL_law_726 rfl (lv_at hl 3 rfl) ?_
  refine lv_iconst (v := 1) hx hb dL_law_727 (by decide) ?_
  refine lv_iadd hx hb dL_law_728 ?_
  refine lv_topi (fun x1 ex1 => ?_)
  obtain rfl : x1 = 1 := ex1.trans (by decide)
  refine va_sld hx hb hX hbl hbA hS (z_in (by decide : (1 : Int32).toInt = 1) (by omega) (by omega)) dL_law_729 ?_
  refine W.eq (g2 := F0 m 730 ls [.int (xs 1), .ref x0]) rfl ?_
  refine lv_aload_n hx hb dL_law_730 rfl (lv_at hl 0 rfl) ?_
  refine lv_iload_n hx hb dL_law_731 rfl (lv_at hl 3 rfl) ?_
  refine lv_iconst (v := 2) hx hb dL_law_732 (by decide) ?_
  refine lv_iadd hx hb dL_law_733 ?_
  refine lv_topi (fun x2 ex2 => ?_)
  obtain rfl : x2 = 2 := ex2.trans (by decide)
  refine va_sld hx hb hX hbl hbA hS (z_in (by decide : (2 : Int32).toInt = 2) (by omega) (by omega)) dL_law_734 ?_
  refine W.eq (g2 := F0 m 735 ls [.int (xs 2), .int (xs 1), .ref x0]) rfl ?_
  refine lv_aload_n hx hb dL_law_735 rfl (lv_at hl 0 rfl) ?_
  refine lv_iload_n hx hb dL_law_736 rfl (lv_at hl 3 rfl) ?_
  refine lv_iconst (v := 3) hx hb dL_law_737 (by decide) ?_
  refine lv_iadd hx hb dL_law_738 ?_
  refine lv_topi (fun x3 ex3 => ?_)
  obtain rfl : x3 = 3 := ex3.trans (by decide)
  refine va_sld hx hb hX hbl hbA hS (z_in (by decide : (3 : Int32).toInt = 3) (by omega) (by omega)) dL_law_739 ?_
  refine W.eq (g2 := F0 m 740 ls [.int (xs 3), .int (xs 2), .int (xs 1), .ref x0]) rfl ?_
  refine lv_aload_n hx hb dL_law_740 rfl (lv_at hl 0 rfl) ?_
  refine lv_iload_n hx hb dL_law_741 rfl (lv_at hl 3 rfl) ?_
  refine lv_iconst (v := 4) hx hb dL_law_742 (by decide) ?_
  refine lv_iadd hx hb dL_law_743 ?_
  refine lv_topi (fun x4 ex4 => ?_)
  obtain rfl : x4 = 4 := ex4.trans (by decide)
  refine va_sld hx hb hX hbl hbA hS (z_in (by decide : (4 : Int32).toInt = 4) (by omega) (by omega)) dL_law_744 ?_
  refine W.eq (g2 := F0 m 745 ls [.int (xs 4), .int (xs 3), .int (xs 2), .int (xs 1), .ref x0]) rfl ?_
  have hPc := hP.sub (ws' := [(x0, .inr (8, [w0, w1, w2, w3, w4, w5, w6, w7, w8, w9, w10, .int 0, .int 0]))]) [0] rfl
  refine zc_i (va_runV (As := [.int (xs 1), .int (xs 2), .int (xs 3), .int (xs 4)]) (rest := []) ⟨hx, hb, hml, hown, hg⟩ (c_X8_gossip l g x0 (w0 : Value) (w1 : Value) (w2 : Value) (w3 : Value) (w4 : Value) (w5 : Value) (w6 : Value) (w7 : Value) (w8 : Value) (w9 : Value) (w10 : Value) (xs 1) (xs 2) (xs 3) (xs 4) ) (cwV 4 hg (z_gV mm_624 mm_625 mm_626 mm_108 mm_627) rfl rfl rfl (by decide +kernel) ⟨Nat.le_of_ble_eq_true rfl, Nat.le_of_ble_eq_true rfl⟩) ⟨(zR.pre [.ref x0, .int (xs 1), .int (xs 2), .int (xs 3), .int (xs 4)] hPc hK hN).1, va_recv hK hPc (ci := 8) (q0 := 0) rfl rfl, (zR.pre [.ref x0, .int (xs 1), .int (xs 2), .int (xs 3), .int (xs 4)] hPc hK hN).2⟩ rfl rfl hl.1 rfl (lv_room (Nat.le_of_ble_eq_true rfl)) dL_law_745 ⟨Nat.le_of_ble_eq_true rfl, Nat.le_of_ble_eq_true rfl⟩) (fun r5 hr5 => ?_)
  obtain rfl := hr5
  refine lv_aload_n hx hb dL_law_748 rfl (lv_at hl 2 rfl) ?_
  refine lv_aload_n hx hb dL_law_749 rfl (lv_at hl 0 rfl) ?_
  refine lv_iload_n hx hb dL_law_750 rfl (lv_at hl 3 rfl) ?_
  refine lv_iconst (v := 1) hx hb dL_law_751 (by decide) ?_
  refine lv_iadd hx hb dL_law_752 ?_
  refine lv_topi (fun x6 ex6 => ?_)
  obtain rfl : x6 = 1 := ex6.trans (by decide)
  refine va_sld hx hb hX hbl hbA hS (z_in (by decide : (1 : Int32).toInt = 1) (by omega) (by omega)) dL_law_753 ?_
  refine W.eq (g2 := F0 m 754 ls [.int (xs 1), .ref m0, .int (-1)]) rfl ?_
  refine lv_aload_n hx hb dL_law_754 rfl (lv_at hl 0 rfl) ?_
  refine lv_iload_n hx hb dL_law_755 rfl (lv_at hl 3 rfl) ?_
  refine lv_iconst (v := 2) hx hb dL_law_756 (by decide) ?_
  refine lv_iadd hx hb dL_law_757 ?_
  refine lv_topi (fun x7 ex7 => ?_)
  obtain rfl : x7 = 2 := ex7.trans (by decide)
  refine va_sld hx hb hX hbl hbA hS (z_in (by decide : (2 : Int32).toInt = 2) (by omega) (by omega)) dL_law_758 ?_
  refine W.eq (g2 := F0 m 759 ls [.int (xs 2), .int (xs 1), .ref m0, .int (-1)]) rfl ?_
  refine lv_aload_n hx hb dL_law_759 rfl (lv_at hl 0 rfl) ?_
  refine lv_iload_n hx hb dL_law_760 rfl (lv_at hl 3 rfl) ?_
  refine lv_iconst (v := 3) hx hb dL_law_761 (by decide) ?_
  refine lv_iadd hx hb dL_law_762 ?_
  refine lv_topi (fun x8 ex8 => ?_)
  obtain rfl : x8 = 3 := ex8.trans (by decide)
  refine va_sld hx hb hX hbl hbA hS (z_in (by decide : (3 : Int32).toInt = 3) (by omega) (by omega)) dL_law_763 ?_
  refine W.eq (g2 := F0 m 764 ls [.int (xs 3), .int (xs 2), .int (xs 1), .ref m0, .int (-1)]) rfl ?_
  refine lv_aload_n hx hb dL_law_764 rfl (lv_at hl 0 rfl) ?_
  refine lv_iload_n hx hb dL_law_765 rfl (lv_at hl 3 rfl) ?_
  refine lv_iconst (v := 4) hx hb dL_law_766 (by decide) ?_
  refine lv_iadd hx hb dL_law_767 ?_
  refine lv_topi (fun x9 ex9 => ?_)
  obtain rfl : x9 = 4 := ex9.trans (by decide)
  refine va_sld hx hb hX hbl hbA hS (z_in (by decide : (4 : Int32).toInt = 4) (by omega) (by omega)) dL_law_768 ?_
  refine W.eq (g2 := F0 m 769 ls [.int (xs 4), .int (xs 3), .int (xs 2), .int (xs 1), .ref m0, .int (-1)]) rfl ?_
  have hPc := hP.sub (ws' := [(m0, .inr (9, [.int 0, u1, u2, u3, u4, .int 0, .int 0, .int 0, .int 0, u9, u10, u11, u12, u13, u14, u15, .int 0, u17, u18, u19, u20, u21, u22, u23, u24, u25, u26, u27, u28, u29, u30, u31, u32, u33, u34, u35, u36, u37, u38, u39, u40, u41, u42, u43, u44, u45, u46]))]) [1] rfl
  refine zc_i (va_runV (As := [.int (xs 1), .int (xs 2), .int (xs 3), .int (xs 4)]) (rest := [.int (-1)]) ⟨hx, hb, hml, hown, hg⟩ (c_X9_gossip l g m0 (u1 : Value) (u2 : Value) (u3 : Value) (u4 : Value) (u9 : Value) (u10 : Value) (u11 : Value) (u12 : Value) (u13 : Value) (u14 : Value) (u15 : Value) (u17 : Value) (u18 : Value) (u19 : Value) (u20 : Value) (u21 : Value) (u22 : Value) (u23 : Value) (u24 : Value) (u25 : Value) (u26 : Value) (u27 : Value) (u28 : Value) (u29 : Value) (u30 : Value) (u31 : Value) (u32 : Value) (u33 : Value) (u34 : Value) (u35 : Value) (u36 : Value) (u37 : Value) (u38 : Value) (u39 : Value) (u40 : Value) (u41 : Value) (u42 : Value) (u43 : Value) (u44 : Value) (u45 : Value) (u46 : Value) (xs 1) (xs 2) (xs 3) (xs 4) ) (cwV 4 hg (z_gV mm_1206 mm_1207 mm_1208 mm_117 mm_1209) rfl rfl rfl (by decide +kernel) ⟨Nat.le_of_ble_eq_true rfl, Nat.le_of_ble_eq_true rfl⟩) ⟨(zR.pre [.ref m0, .int (xs 1), .int (xs 2), .int (xs 3), .int (xs 4)] hPc hK hN).1, va_recv hK hPc (ci := 9) (q0 := 0) rfl rfl, (zR.pre [.ref m0, .int (xs 1), .int (xs 2), .int (xs 3), .int (xs 4)] hPc hK hN).2⟩ rfl rfl hl.1 rfl (lv_room (Nat.le_of_ble_eq_true rfl)) dL_law_769 ⟨Nat.le_of_ble_eq_true rfl, Nat.le_of_ble_eq_true rfl⟩) (fun r10 hr10 => ?_)
  obtain rfl := hr10
  refine lv_icmp_eq (tgt := 1533) hx hb dL_law_772 (by decide) (fun c11 => ?_) (fun c11 => ?_)
  · skip
    refine lv_iinc (v := 6) (lv' := [(3, .int 6), (0, .ref b), (1, .ref x0), (2, .ref m0)]) hx hb dL_law_1533 hl (k := 3) rfl (by decide) (by decide) rfl (fun ls hl => ?_)
    refine lv_goto (tgt := 18) hx hb dL_law_1536 (by decide) ?_
    refine lv_iload_n hx hb dL_law_18 rfl (lv_at hl 0 rfl) ?_
    refine lv_aload_n hx hb dL_law_19 rfl (lv_at hl 1 rfl) ?_
    refine va_slen hx hb hX hbl hbA hS dL_law_20 ?_
    refine W.eq (g2 := F0 m 21 ls [.int 6, .int 6]) rfl ?_
    refine lv_bipush (v := 6) hx hb dL_law_21 (by decide) ?_
    refine lv_isub hx hb dL_law_23 ?_
    refine lv_topi (fun x12 ex12 => ?_)
    obtain rfl : x12 = 0 := ex12.trans (by decide)
    refine lv_icmp_gt (tgt := 1539) hx hb dL_law_24 (by decide) (fun c13 => ?_) (fun c13 => ?_)
    · skip
      refine lv_iconst (v := 1) hx hb dL_law_1539 (by decide) ?_
      refine va_forget (fun q hq => hA' _ (hS.2.2 q hq)) ?_
      refine W.widen (k := 600000) (n := 7302250) (Nat.le_of_ble_eq_true rfl) (Nat.le_of_ble_eq_true rfl) ?_
      exact lw_ret hx hb hr hlocks dL_law_1540
    · skip
      exact absurd c13 (by decide)
  · skip
    exact absurd c11 (by decide)

set_option maxHeartbeats 4000000 in
set_option maxRecDepth 100000 in
theorem op_line {p : Program} {e : Env} {s : State} {m : MethodId} {below : List Frame} {meth : Method} {c : Code} (l : Launch) {b : Nat} {xs : Nat → Int32} (C0 : lw_At p s m meth c b 6 xs) (g : zG) (hK : zK g s) (hN : zN s) (x0 : Nat) (w0 : Value) (w1 : Value) (w2 : Value) (w3 : Value) (w4 : Value) (w5 : Value) (w6 : Value) (w7 : Value) (w8 : Value) (w9 : Value) (w10 : Value) (m0 : Nat) (u1 : Value) (u2 : Value) (u3 : Value) (u4 : Value) (u9 : Value) (u10 : Value) (u11 : Value) (u12 : Value) (u13 : Value) (u14 : Value) (u15 : Value) (u17 : Value) (u18 : Value) (u19 : Value) (u20 : Value) (u21 : Value) (u22 : Value) (u23 : Value) (u24 : Value) (u25 : Value) (u26 : Value) (u27 : Value) (u28 : Value) (u29 : Value) (u30 : Value) (u31 : Value) (u32 : Value) (u33 : Value) (u34 : Value) (u35 : Value) (u36 : Value) (u37 : Value) (u38 : Value) (u39 : Value) (u40 : Value) (u41 : Value) (u42 : Value) (u43 : Value) (u44 : Value) (u45 : Value) (u46 : Value) {A : Nat → Prop} (hA : ∀ q, s.heap.size ≤ q → A q) (hA' : ∀ q, A q → s.heap.size ≤ q) (H : Heap) (locs : List Loc) (hS : va_S A s.heap H locs) (hP : zP g [(x0, .inr (8, [w0, w1, w2, w3, w4, w5, w6, w7, w8, w9, w10, .int 0, .int 0])), (m0, .inr (9, [.int 0, u1, u2, u3, u4, .int 0, .int 0, .int 0, .int 0, u9, u10, u11, u12, u13, u14, u15, .int 0, u17, u18, u19, u20, u21, u22, u23, u24, u25, u26, u27, u28, u29, u30, u31, u32, u33, u34, u35, u36, u37, u38, u39, u40, u41, u42, u43, u44, u45, u46]))] H) (hD : va_D A [(x0, .inr (8, [w0, w1, w2, w3, w4, w5, w6, w7, w8, w9, w10, .int 0, .int 0])), (m0, .inr (9, [.int 0, u1, u2, u3, u4, .int 0, .int 0, .int 0, .int 0, u9, u10, u11, u12, u13, u14, u15, .int 0, u17, u18, u19, u20, u21, u22, u23, u24, u25, u26, u27, u28, u29, u30, u31, u32, u33, u34, u35, u36, u37, u38, u39, u40, u41, u42, u43, u44, u45, u46]))]) (ls : Array Slot) (hl : lv_has ls 4 [(0, .ref b), (1, .ref x0), (2, .ref m0), (3, .int 0)]) : W p l e room_1 s m #[Value.ref b] below meth c H locs 210 203560 (lw_Z below #[Value.ref b] s) (F0 m 777 ls []) := by
  obtain ⟨hx, hb, hr, hml, hown, hts, hX, hbl, hlocks, hgv⟩ := C0
  have hg : ∀ w ∈ zGW, w.before #[Value.ref b] s = true := fun w h => hts w (List.mem_filter.mp h).1
  have hown : s.vm.findClass RL = some m.cls := hown
  have hbA : ¬ A b := fun h => absurd (hA' b h) (Nat.not_le.mpr hbl)
  refine lv_aload_n hx hb dL_law_777 rfl (lv_at hl 1 rfl) ?_
  refine lv_aload_n hx hb dL_law_778 rfl (lv_at hl 0 rfl) ?_
  refine lv_iload_n hx hb dL_law_779 rfl (lv_at hl 3 rfl) ?_
  refine lv_iconst (v := 1) hx hb dL_law_780 (by decide) ?_
  refine lv_iadd hx hb dL_law_781 ?_
  refine lv_topi (fun x1 ex1 => ?_)
  obtain rfl : x1 = 1 := ex1.trans (by decide)
  refine va_sld hx hb hX hbl hbA hS (z_in (by decide : (1 : Int32).toInt = 1) (by omega) (by omega)) dL_law_782 ?_
  refine W.eq (g2 := F0 m 783 ls [.int (xs 1), .ref x0]) rfl ?_
  refine lv_aload_n hx hb dL_law_783 rfl (lv_at hl 0 rfl) ?_
  refine lv_iload_n hx hb dL_law_784 rfl (lv_at hl 3 rfl) ?_
  refine lv_iconst (v := 2) hx hb dL_law_785 (by decide) ?_
  refine lv_iadd hx hb dL_law_786 ?_
  refine lv_topi (fun x2 ex2 => ?_)
  obtain rfl : x2 = 2 := ex2.trans (by decide)
  refine va_sld hx hb hX hbl hbA hS (z_in (by decide : (2 : Int32).toInt = 2) (by omega) (by omega)) dL_law_787 ?_
  refine W.eq (g2 := F0 m 788 ls [.int (xs 2), .int (xs 1), .ref x0]) rfl ?_
  refine lv_aload_n hx hb dL_law_788 rfl (lv_at hl 0 rfl) ?_
  refine lv_iload_n hx hb dL_law_789 rfl (lv_at hl 3 rfl) ?_
  refine lv_iconst (v := 3) hx hb dL_law_790 (by decide) ?_
  refine lv_iadd hx hb dL_law_791 ?_
  refine lv_topi (fun x3 ex3 => ?_)
  obtain rfl : x3 = 3 := ex3.trans (by decide)
  refine va_sld hx hb hX hbl hbA hS (z_in (by decide : (3 : Int32).toInt = 3) (by omega) (by omega)) dL_law_792 ?_
  refine W.eq (g2 := F0 m 793 ls [.int (xs 3), .int (xs 2), .int (xs 1), .ref x0]) rfl ?_
  have hPc := hP.sub (ws' := [(x0, .inr (8, [w0, w1, w2, w3, w4, w5, w6, w7, w8, w9, w10, .int 0, .int 0]))]) [0] rfl
  refine zc_i (va_runV (As := [.int (xs 1), .int (xs 2), .int (xs 3)]) (rest := []) ⟨hx, hb, hml, hown, hg⟩ (c_X8_line l g x0 (w0 : Value) (w1 : Value) (w2 : Value) (w3 : Value) (w4 : Value) (w5 : Value) (w6 : Value) (w7 : Value) (w8 : Value) (w9 : Value) (w10 : Value) (xs 1) (xs 2) (xs 3) ) (cwV 3 hg (z_gV mm_644 mm_645 mm_646 mm_108 mm_647) rfl rfl rfl (by decide +kernel) ⟨Nat.le_of_ble_eq_true rfl, Nat.le_of_ble_eq_true rfl⟩) ⟨(zR.pre [.ref x0, .int (xs 1), .int (xs 2), .int (xs 3)] hPc hK hN).1, va_recv hK hPc (ci := 8) (q0 := 0) rfl rfl, (zR.pre [.ref x0, .int (xs 1), .int (xs 2), .int (xs 3)] hPc hK hN).2⟩ rfl rfl hl.1 rfl (lv_room (Nat.le_of_ble_eq_true rfl)) dL_law_793 ⟨Nat.le_of_ble_eq_true rfl, Nat.le_of_ble_eq_true rfl⟩) (fun r4 hr4 => ?_)
  obtain rfl := hr4
  refine lv_aload_n hx hb dL_law_796 rfl (lv_at hl 2 rfl) ?_
  refine lv_aload_n hx hb dL_law_797 rfl (lv_at hl 0 rfl) ?_
  refine lv_iload_n hx hb dL_law_798 rfl (lv_at hl 3 rfl) ?_
  refine lv_iconst (v := 1) hx hb dL_law_799 (by decide) ?_
  refine lv_iadd hx hb dL_law_800 ?_
  refine lv_topi (fun x5 ex5 => ?_)
  obtain rfl : x5 = 1 := ex5.trans (by decide)
  refine va_sld hx hb hX hbl hbA hS (z_in (by decide : (1 : Int32).toInt = 1) (by omega) (by omega)) dL_law_801 ?_
  refine W.eq (g2 := F0 m 802 ls [.int (xs 1), .ref m0, .int (-1)]) rfl ?_
  refine lv_aload_n hx hb dL_law_802 rfl (lv_at hl 0 rfl) ?_
  refine lv_iload_n hx hb dL_law_803 rfl (lv_at hl 3 rfl) ?_
  refine lv_iconst (v := 2) hx hb dL_law_804 (by decide) ?_
  refine lv_iadd hx hb dL_law_805 ?_
  refine lv_topi (fun x6 ex6 => ?_)
  obtain rfl : x6 = 2 := ex6.trans (by decide)
  refine va_sld hx hb hX hbl hbA hS (z_in (by decide : (2 : Int32).toInt = 2) (by omega) (by omega)) dL_law_806 ?_
  refine W.eq (g2 := F0 m 807 ls [.int (xs 2), .int (xs 1), .ref m0, .int (-1)]) rfl ?_
  refine lv_aload_n hx hb dL_law_807 rfl (lv_at hl 0 rfl) ?_
  refine lv_iload_n hx hb dL_law_808 rfl (lv_at hl 3 rfl) ?_
  refine lv_iconst (v := 3) hx hb dL_law_809 (by decide) ?_
  refine lv_iadd hx hb dL_law_810 ?_
  refine lv_topi (fun x7 ex7 => ?_)
  obtain rfl : x7 = 3 := ex7.trans (by decide)
  refine va_sld hx hb hX hbl hbA hS (z_in (by decide : (3 : Int32).toInt = 3) (by omega) (by omega)) dL_law_811 ?_
  refine W.eq (g2 := F0 m 812 ls [.int (xs 3), .int (xs 2), .int (xs 1), .ref m0, .int (-1)]) rfl ?_
  have hPc := hP.sub (ws' := [(m0, .inr (9, [.int 0, u1, u2, u3, u4, .int 0, .int 0, .int 0, .int 0, u9, u10, u11, u12, u13, u14, u15, .int 0, u17, u18, u19, u20, u21, u22, u23, u24, u25, u26, u27, u28, u29, u30, u31, u32, u33, u34, u35, u36, u37, u38, u39, u40, u41, u42, u43, u44, u45, u46]))]) [1] rfl
  refine zc_i (va_runV (As := [.int (xs 1), .int (xs 2), .int (xs 3)]) (rest := [.int (-1)]) ⟨hx, hb, hml, hown, hg⟩ (c_X9_line l g m0 (u1 : Value) (u2 : Value) (u3 : Value) (u4 : Value) (u9 : Value) (u10 : Value) (u11 : Value) (u12 : Value) (u13 : Value) (u14 : Value) (u15 : Value) (u17 : Value) (u18 : Value) (u19 : Value) (u20 : Value) (u21 : Value) (u22 : Value) (u23 : Value) (u24 : Value) (u25 : Value) (u26 : Value) (u27 : Value) (u28 : Value) (u29 : Value) (u30 : Value) (u31 : Value) (u32 : Value) (u33 : Value) (u34 : Value) (u35 : Value) (u36 : Value) (u37 : Value) (u38 : Value) (u39 : Value) (u40 : Value) (u41 : Value) (u42 : Value) (u43 : Value) (u44 : Value) (u45 : Value) (u46 : Value) (xs 1) (xs 2) (xs 3) ) (cwV 3 hg (z_gV mm_1286 mm_1287 mm_1288 mm_117 mm_1289) rfl rfl rfl (by decide +kernel) ⟨Nat.le_of_ble_eq_true rfl, Nat.le_of_ble_eq_true rfl⟩) ⟨(zR.pre [.ref m0, .int (xs 1), .int (xs 2), .int (xs 3)] hPc hK hN).1, va_recv hK hPc (ci := 9) (q0 := 0) rfl rfl, (zR.pre [.ref m0, .int (xs 1), .int (xs 2), .int (xs 3)] hPc hK hN).2⟩ rfl rfl hl.1 rfl (lv_room (Nat.le_of_ble_eq_true rfl)) dL_law_812 ⟨Nat.le_of_ble_eq_true rfl, Nat.le_of_ble_eq_true rfl⟩) (fun r8 hr8 => ?_)
  obtain rfl := hr8
  refine lv_icmp_eq (tgt := 1533) hx hb dL_law_815 (by decide) (fun c9 => ?_) (fun c9 => ?_)
  · skip
    refine lv_iinc (v := 6) (lv' := [(3, .int 6), (0, .ref b), (1, .ref x0), (2, .ref m0)]) hx hb dL_law_1533 hl (k := 3) rfl (by decide) (by decide) rfl (fun ls hl => ?_)
    refine lv_goto (tgt := 18) hx hb dL_law_1536 (by decide) ?_
    refine lv_iload_n hx hb dL_law_18 rfl (lv_at hl 0 rfl) ?_
    refine lv_aload_n hx hb dL_law_19 rfl (lv_at hl 1 rfl) ?_
    refine va_slen hx hb hX hbl hbA hS dL_law_20 ?_
    refine W.eq (g2 := F0 m 21 ls [.int 6, .int 6]) rfl ?_
    refine lv_bipush (v := 6) hx hb dL_law_21 (by decide) ?_
    refine lv_isub hx hb dL_law_23 ?_
    refine lv_topi (fun x10 ex10 => ?_)
    obtain rfl : x10 = 0 := ex10.trans (by decide)
    refine lv_icmp_gt (tgt := 1539) hx hb dL_law_24 (by decide) (fun c11 => ?_) (fun c11 => ?_)
    · skip
      refine lv_iconst (v := 1) hx hb dL_law_1539 (by decide) ?_
      refine va_forget (fun q hq => hA' _ (hS.2.2 q hq)) ?_
      refine W.widen (k := 600000) (n := 7302250) (Nat.le_of_ble_eq_true rfl) (Nat.le_of_ble_eq_true rfl) ?_
      exact lw_ret hx hb hr hlocks dL_law_1540
    · skip
      exact absurd c11 (by decide)
  · skip
    exact absurd c9 (by decide)

set_option maxHeartbeats 4000000 in
set_option maxRecDepth 100000 in
theorem op_fits {p : Program} {e : Env} {s : State} {m : MethodId} {below : List Frame} {meth : Method} {c : Code} (l : Launch) {b : Nat} {xs : Nat → Int32} (C0 : lw_At p s m meth c b 6 xs) (g : zG) (hK : zK g s) (hN : zN s) (x0 : Nat) (w0 : Value) (w1 : Value) (w2 : Value) (w3 : Value) (w4 : Value) (w5 : Value) (w6 : Value) (w7 : Value) (w8 : Value) (w9 : Value) (w10 : Value) (m0 : Nat) (u1 : Value) (u2 : Value) (u3 : Value) (u4 : Value) (u9 : Value) (u10 : Value) (u11 : Value) (u12 : Value) (u13 : Value) (u14 : Value) (u15 : Value) (u17 : Value) (u18 : Value) (u19 : Value) (u20 : Value) (u21 : Value) (u22 : Value) (u23 : Value) (u24 : Value) (u25 : Value) (u26 : Value) (u27 : Value) (u28 : Value) (u29 : Value) (u30 : Value) (u31 : Value) (u32 : Value) (u33 : Value) (u34 : Value) (u35 : Value) (u36 : Value) (u37 : Value) (u38 : Value) (u39 : Value) (u40 : Value) (u41 : Value) (u42 : Value) (u43 : Value) (u44 : Value) (u45 : Value) (u46 : Value) {A : Nat → Prop} (hA : ∀ q, s.heap.size ≤ q → A q) (hA' : ∀ q, A q → s.heap.size ≤ q) (H : Heap) (locs : List Loc) (hS : va_S A s.heap H locs) (hP : zP g [(x0, .inr (8, [w0, w1, w2, w3, w4, w5, w6, w7, w8, w9, w10, .int 0, .int 0])), (m0, .inr (9, [.int 0, u1, u2, u3, u4, .int 0, .int 0, .int 0, .int 0, u9, u10, u11, u12, u13, u14, u15, .int 0, u17, u18, u19, u20, u21, u22, u23, u24, u25, u26, u27, u28, u29, u30, u31, u32, u33, u34, u35, u36, u37, u38, u39, u40, u41, u42, u43, u44, u45, u46]))] H) (hD : va_D A [(x0, .inr (8, [w0, w1, w2, w3, w4, w5, w6, w7, w8, w9, w10, .int 0, .int 0])), (m0, .inr (9, [.int 0, u1, u2, u3, u4, .int 0, .int 0, .int 0, .int 0, u9, u10, u11, u12, u13, u14, u15, .int 0, u17, u18, u19, u20, u21, u22, u23, u24, u25, u26, u27, u28, u29, u30, u31, u32, u33, u34, u35, u36, u37, u38, u39, u40, u41, u42, u43, u44, u45, u46]))]) (ls : Array Slot) (hl : lv_has ls 4 [(0, .ref b), (1, .ref x0), (2, .ref m0), (3, .int 0)]) : W p l e room_1 s m #[Value.ref b] below meth c H locs 210 203560 (lw_Z below #[Value.ref b] s) (F0 m 820 ls []) := by
  obtain ⟨hx, hb, hr, hml, hown, hts, hX, hbl, hlocks, hgv⟩ := C0
  have hg : ∀ w ∈ zGW, w.before #[Value.ref b] s = true := fun w h => hts w (List.mem_filter.mp h).1
  have hown : s.vm.findClass RL = some m.cls := hown
  have hbA : ¬ A b := fun h => absurd (hA' b h) (Nat.not_le.mpr hbl)
  refine lv_aload_n hx hb dL_law_820 rfl (lv_at hl 1 rfl) ?_
  refine lv_aload_n hx hb dL_law_821 rfl (lv_at hl 0 rfl) ?_
  refine lv_iload_n hx hb dL_law_822 rfl (lv_at hl 3 rfl) ?_
  refine lv_iconst (v := 1) hx hb dL_law_823 (by decide) ?_
  refine lv_iadd hx hb dL_law_824 ?_
  refine lv_topi (fun x1 ex1 => ?_)
  obtain rfl : x1 = 1 := ex1.trans (by decide)
  refine va_sld hx hb hX hbl hbA hS (z_in (by decide : (1 : Int32).toInt = 1) (by omega) (by omega)) dL_law_825 ?_
  refine W.eq (g2 := F0 m 826 ls [.int (xs 1), .ref x0]) rfl ?_
  refine lv_aload_n hx hb dL_law_826 rfl (lv_at hl 0 rfl) ?_
  refine lv_iload_n hx hb dL_law_827 rfl (lv_at hl 3 rfl) ?_
  refine lv_iconst (v := 2) hx hb dL_law_828 (by decide) ?_
  refine lv_iadd hx hb dL_law_829 ?_
  refine lv_topi (fun x2 ex2 => ?_)
  obtain rfl : x2 = 2 := ex2.trans (by decide)
  refine va_sld hx hb hX hbl hbA hS (z_in (by decide : (2 : Int32).toInt = 2) (by omega) (by omega)) dL_law_830 ?_
  refine W.eq (g2 := F0 m 831 ls [.int (xs 2), .int (xs 1), .ref x0]) rfl ?_
  refine lv_aload_n hx hb dL_law_831 rfl (lv_at hl 0 rfl) ?_
  refine lv_iload_n hx hb dL_law_832 rfl (lv_at hl 3 rfl) ?_
  refine lv_iconst (v := 3) hx hb dL_law_833 (by decide) ?_
  refine lv_iadd hx hb dL_law_834 ?_
  refine lv_topi (fun x3 ex3 => ?_)
  obtain rfl : x3 = 3 := ex3.trans (by decide)
  refine va_sld hx hb hX hbl hbA hS (z_in (by decide : (3 : Int32).toInt = 3) (by omega) (by omega)) dL_law_835 ?_
  refine W.eq (g2 := F0 m 836 ls [.int (xs 3), .int (xs 2), .int (xs 1), .ref x0]) rfl ?_
  have hPc := hP.sub (ws' := [(x0, .inr (8, [w0, w1, w2, w3, w4, w5, w6, w7, w8, w9, w10, .int 0, .int 0]))]) [0] rfl
  refine zc_i (va_runV (As := [.int (xs 1), .int (xs 2), .int (xs 3)]) (rest := []) ⟨hx, hb, hml, hown, hg⟩ (c_X8_fits l g x0 (w0 : Value) (w1 : Value) (w2 : Value) (w3 : Value) (w4 : Value) (w5 : Value) (w6 : Value) (w7 : Value) (w8 : Value) (w9 : Value) (w10 : Value) (xs 1) (xs 2) (xs 3) ) (cwV 3 hg (z_gV mm_648 mm_649 mm_650 mm_108 mm_651) rfl rfl rfl (by decide +kernel) ⟨Nat.le_of_ble_eq_true rfl, Nat.le_of_ble_eq_true rfl⟩) ⟨(zR.pre [.ref x0, .int (xs 1), .int (xs 2), .int (xs 3)] hPc hK hN).1, va_recv hK hPc (ci := 8) (q0 := 0) rfl rfl, (zR.pre [.ref x0, .int (xs 1), .int (xs 2), .int (xs 3)] hPc hK hN).2⟩ rfl rfl hl.1 rfl (lv_room (Nat.le_of_ble_eq_true rfl)) dL_law_836 ⟨Nat.le_of_ble_eq_true rfl, Nat.le_of_ble_eq_true rfl⟩) (fun r4 hr4 => ?_)
  obtain rfl := hr4
  refine lv_aload_n hx hb dL_law_839 rfl (lv_at hl 2 rfl) ?_
  refine lv_aload_n hx hb dL_law_840 rfl (lv_at hl 0 rfl) ?_
  refine lv_iload_n hx hb dL_law_841 rfl (lv_at hl 3 rfl) ?_
  refine lv_iconst (v := 1) hx hb dL_law_842 (by decide) ?_
  refine lv_iadd hx hb dL_law_843 ?_
  refine lv_topi (fun x5 ex5 => ?_)
  obtain rfl : x5 = 1 := ex5.trans (by decide)
  refine va_sld hx hb hX hbl hbA hS (z_in (by decide : (1 : Int32).toInt = 1) (by omega) (by omega)) dL_law_844 ?_
  refine W.eq (g2 := F0 m 845 ls [.int (xs 1), .ref m0, .int (-1)]) rfl ?_
  refine lv_aload_n hx hb dL_law_845 rfl (lv_at hl 0 rfl) ?_
  refine lv_iload_n hx hb dL_law_846 rfl (lv_at hl 3 rfl) ?_
  refine lv_iconst (v := 2) hx hb dL_law_847 (by decide) ?_
  refine lv_iadd hx hb dL_law_848 ?_
  refine lv_topi (fun x6 ex6 => ?_)
  obtain rfl : x6 = 2 := ex6.trans (by decide)
  refine va_sld hx hb hX hbl hbA hS (z_in (by decide : (2 : Int32).toInt = 2) (by omega) (by omega)) dL_law_849 ?_
  refine W.eq (g2 := F0 m 850 ls [.int (xs 2), .int (xs 1), .ref m0, .int (-1)]) rfl ?_
  refine lv_aload_n hx hb dL_law_850 rfl (lv_at hl 0 rfl) ?_
  refine lv_iload_n hx hb dL_law_851 rfl (lv_at hl 3 rfl) ?_
  refine lv_iconst (v := 3) hx hb dL_law_852 (by decide) ?_
  refine lv_iadd hx hb dL_law_853 ?_
  refine lv_topi (fun x7 ex7 => ?_)
  obtain rfl : x7 = 3 := ex7.trans (by decide)
  refine va_sld hx hb hX hbl hbA hS (z_in (by decide : (3 : Int32).toInt = 3) (by omega) (by omega)) dL_law_854 ?_
  refine W.eq (g2 := F0 m 855 ls [.int (xs 3), .int (xs 2), .int (xs 1), .ref m0, .int (-1)]) rfl ?_
  have hPc := hP.sub (ws' := [(m0, .inr (9, [.int 0, u1, u2, u3, u4, .int 0, .int 0, .int 0, .int 0, u9, u10, u11, u12, u13, u14, u15, .int 0, u17, u18, u19, u20, u21, u22, u23, u24, u25, u26, u27, u28, u29, u30, u31, u32, u33, u34, u35, u36, u37, u38, u39, u40, u41, u42, u43, u44, u45, u46]))]) [1] rfl
  refine zc_i (va_runV (As := [.int (xs 1), .int (xs 2), .int (xs 3)]) (rest := [.int (-1)]) ⟨hx, hb, hml, hown, hg⟩ (c_X9_fits l g m0 (u1 : Value) (u2 : Value) (u3 : Value) (u4 : Value) (u9 : Value) (u10 : Value) (u11 : Value) (u12 : Value) (u13 : Value) (u14 : Value) (u15 : Value) (u17 : Value) (u18 : Value) (u19 : Value) (u20 : Value) (u21 : Value) (u22 : Value) (u23 : Value) (u24 : Value) (u25 : Value) (u26 : Value) (u27 : Value) (u28 : Value) (u29 : Value) (u30 : Value) (u31 : Value) (u32 : Value) (u33 : Value) (u34 : Value) (u35 : Value) (u36 : Value) (u37 : Value) (u38 : Value) (u39 : Value) (u40 : Value) (u41 : Value) (u42 : Value) (u43 : Value) (u44 : Value) (u45 : Value) (u46 : Value) (xs 1) (xs 2) (xs 3) ) (cwV 3 hg (z_gV mm_1290 mm_1291 mm_1292 mm_117 mm_1293) rfl rfl rfl (by decide +kernel) ⟨Nat.le_of_ble_eq_true rfl, Nat.le_of_ble_eq_true rfl⟩) ⟨(zR.pre [.ref m0, .int (xs 1), .int (xs 2), .int (xs 3)] hPc hK hN).1, va_recv hK hPc (ci := 9) (q0 := 0) rfl rfl, (zR.pre [.ref m0, .int (xs 1), .int (xs 2), .int (xs 3)] hPc hK hN).2⟩ rfl rfl hl.1 rfl (lv_room (Nat.le_of_ble_eq_true rfl)) dL_law_855 ⟨Nat.le_of_ble_eq_true rfl, Nat.le_of_ble_eq_true rfl⟩) (fun r8 hr8 => ?_)
  obtain rfl := hr8
  refine lv_icmp_eq (tgt := 1533) hx hb dL_law_858 (by decide) (fun c9 => ?_) (fun c9 => ?_)
  · skip
    refine lv_iinc (v := 6) (lv' := [(3, .int 6), (0, .ref b), (1, .ref x0), (2, .ref m0)]) hx hb dL_law_1533 hl (k := 3) rfl (by decide) (by decide) rfl (fun ls hl => ?_)
    refine lv_goto (tgt := 18) hx hb dL_law_1536 (by decide) ?_
    refine lv_iload_n hx hb dL_law_18 rfl (lv_at hl 0 rfl) ?_
    refine lv_aload_n hx hb dL_law_19 rfl (lv_at hl 1 rfl) ?_
    refine va_slen hx hb hX hbl hbA hS dL_law_20 ?_
    refine W.eq (g2 := F0 m 21 ls [.int 6, .int 6]) rfl ?_
    refine lv_bipush (v := 6) hx hb dL_law_21 (by decide) ?_
    refine lv_isub hx hb dL_law_23 ?_
    refine lv_topi (fun x10 ex10 => ?_)
    obtain rfl : x10 = 0 := ex10.trans (by decide)
    refine lv_icmp_gt (tgt := 1539) hx hb dL_law_24 (by decide) (fun c11 => ?_) (fun c11 => ?_)
    · skip
      refine lv_iconst (v := 1) hx hb dL_law_1539 (by decide) ?_
      refine va_forget (fun q hq => hA' _ (hS.2.2 q hq)) ?_
      refine W.widen (k := 600000) (n := 7302250) (Nat.le_of_ble_eq_true rfl) (Nat.le_of_ble_eq_true rfl) ?_
      exact lw_ret hx hb hr hlocks dL_law_1540
    · skip
      exact absurd c11 (by decide)
  · skip
    exact absurd c9 (by decide)

set_option maxHeartbeats 4000000 in
set_option maxRecDepth 100000 in
theorem op_givings {p : Program} {e : Env} {s : State} {m : MethodId} {below : List Frame} {meth : Method} {c : Code} (l : Launch) {b : Nat} {xs : Nat → Int32} (C0 : lw_At p s m meth c b 6 xs) (g : zG) (hK : zK g s) (hN : zN s) (x0 : Nat) (w0 : Value) (w1 : Value) (w2 : Value) (w3 : Value) (w4 : Value) (w5 : Value) (w6 : Value) (w7 : Value) (w8 : Value) (w9 : Value) (w10 : Value) (m0 : Nat) (u1 : Value) (u2 : Value) (u3 : Value) (u4 : Value) (u9 : Value) (u10 : Value) (u11 : Value) (u12 : Value) (u13 : Value) (u14 : Value) (u15 : Value) (u17 : Value) (u18 : Value) (u19 : Value) (u20 : Value) (u21 : Value) (u22 : Value) (u23 : Value) (u24 : Value) (u25 : Value) (u26 : Value) (u27 : Value) (u28 : Value) (u29 : Value) (u30 : Value) (u31 : Value) (u32 : Value) (u33 : Value) (u34 : Value) (u35 : Value) (u36 : Value) (u37 : Value) (u38 : Value) (u39 : Value) (u40 : Value) (u41 : Value) (u42 : Value) (u43 : Value) (u44 : Value) (u45 : Value) (u46 : Value) {A : Nat → Prop} (hA : ∀ q, s.heap.size ≤ q → A q) (hA' : ∀ q, A q → s.heap.size ≤ q) (H : Heap) (locs : List Loc) (hS : va_S A s.heap H locs) (hP : zP g [(x0, .inr (8, [w0, w1, w2, w3, w4, w5, w6, w7, w8, w9, w10, .int 0, .int 0])), (m0, .inr (9, [.int 0, u1, u2, u3, u4, .int 0, .int 0, .int 0, .int 0, u9, u10, u11, u12, u13, u14, u15, .int 0, u17, u18, u19, u20, u21, u22, u23, u24, u25, u26, u27, u28, u29, u30, u31, u32, u33, u34, u35, u36, u37, u38, u39, u40, u41, u42, u43, u44, u45, u46]))] H) (hD : va_D A [(x0, .inr (8, [w0, w1, w2, w3, w4, w5, w6, w7, w8, w9, w10, .int 0, .int 0])), (m0, .inr (9, [.int 0, u1, u2, u3, u4, .int 0, .int 0, .int 0, .int 0, u9, u10, u11, u12, u13, u14, u15, .int 0, u17, u18, u19, u20, u21, u22, u23, u24, u25, u26, u27, u28, u29, u30, u31, u32, u33, u34, u35, u36, u37, u38, u39, u40, u41, u42, u43, u44, u45, u46]))]) (ls : Array Slot) (hl : lv_has ls 4 [(0, .ref b), (1, .ref x0), (2, .ref m0), (3, .int 0)]) : W p l e room_1 s m #[Value.ref b] below meth c H locs 210 203560 (lw_Z below #[Value.ref b] s) (F0 m 863 ls []) := by
  obtain ⟨hx, hb, hr, hml, hown, hts, hX, hbl, hlocks, hgv⟩ := C0
  have hg : ∀ w ∈ zGW, w.before #[Value.ref b] s = true := fun w h => hts w (List.mem_filter.mp h).1
  have hown : s.vm.findClass RL = some m.cls := hown
  have hbA : ¬ A b := fun h => absurd (hA' b h) (Nat.not_le.mpr hbl)
  refine lv_aload_n hx hb dL_law_863 rfl (lv_at hl 1 rfl) ?_
  refine lv_aload_n hx hb dL_law_864 rfl (lv_at hl 0 rfl) ?_
  refine lv_iload_n hx hb dL_law_865 rfl (lv_at hl 3 rfl) ?_
  refine lv_iconst (v := 1) hx hb dL_law_866 (by decide) ?_
  refine lv_iadd hx hb dL_law_867 ?_
  refine lv_topi (fun x1 ex1 => ?_)
  obtain rfl : x1 = 1 := ex1.trans (by decide)
  refine va_sld hx hb hX hbl hbA hS (z_in (by decide : (1 : Int32).toInt = 1) (by omega) (by omega)) dL_law_868 ?_
  refine W.eq (g2 := F0 m 869 ls [.int (xs 1), .ref x0]) rfl ?_
  refine lv_aload_n hx hb dL_law_869 rfl (lv_at hl 0 rfl) ?_
  refine lv_iload_n hx hb dL_law_870 rfl (lv_at hl 3 rfl) ?_
  refine lv_iconst (v := 2) hx hb dL_law_871 (by decide) ?_
  refine lv_iadd hx hb dL_law_872 ?_
  refine lv_topi (fun x2 ex2 => ?_)
  obtain rfl : x2 = 2 := ex2.trans (by decide)
  refine va_sld hx hb hX hbl hbA hS (z_in (by decide : (2 : Int32).toInt = 2) (by omega) (by omega)) dL_law_873 ?_
  refine W.eq (g2 := F0 m 874 ls [.int (xs 2), .int (xs 1), .ref x0]) rfl ?_
  have hPc := hP.sub (ws' := [(x0, .inr (8, [w0, w1, w2, w3, w4, w5, w6, w7, w8, w9, w10, .int 0, .int 0]))]) [0] rfl
  refine zc_l (va_runV (As := [.int (xs 1), .int (xs 2)]) (rest := []) ⟨hx, hb, hml, hown, hg⟩ (c_X8_givings l g x0 (w0 : Value) (w1 : Value) (w2 : Value) (w3 : Value) (w4 : Value) (w5 : Value) (w6 : Value) (w7 : Value) (w8 : Value) (w9 : Value) (w10 : Value) (xs 1) (xs 2) ) (cwV 2 hg (z_gV mm_695 mm_696 mm_697 mm_108 mm_698) rfl rfl rfl (by decide +kernel) ⟨Nat.le_of_ble_eq_true rfl, Nat.le_of_ble_eq_true rfl⟩) ⟨(zR.pre [.ref x0, .int (xs 1), .int (xs 2)] hPc hK hN).1, va_recv hK hPc (ci := 8) (q0 := 0) rfl rfl, (zR.pre [.ref x0, .int (xs 1), .int (xs 2)] hPc hK hN).2⟩ rfl rfl hl.1 rfl (lv_room (Nat.le_of_ble_eq_true rfl)) dL_law_874 ⟨Nat.le_of_ble_eq_true rfl, Nat.le_of_ble_eq_true rfl⟩) (fun r3 hr3 => ?_)
  obtain rfl := hr3
  refine lv_aload_n hx hb dL_law_877 rfl (lv_at hl 2 rfl) ?_
  refine lv_aload_n hx hb dL_law_878 rfl (lv_at hl 0 rfl) ?_
  refine lv_iload_n hx hb dL_law_879 rfl (lv_at hl 3 rfl) ?_
  refine lv_iconst (v := 1) hx hb dL_law_880 (by decide) ?_
  refine lv_iadd hx hb dL_law_881 ?_
  refine lv_topi (fun x4 ex4 => ?_)
  obtain rfl : x4 = 1 := ex4.trans (by decide)
  refine va_sld hx hb hX hbl hbA hS (z_in (by decide : (1 : Int32).toInt = 1) (by omega) (by omega)) dL_law_882 ?_
  refine W.eq (g2 := F0 m 883 ls [.int (xs 1), .ref m0, .long (-1)]) rfl ?_
  refine lv_aload_n hx hb dL_law_883 rfl (lv_at hl 0 rfl) ?_
  refine lv_iload_n hx hb dL_law_884 rfl (lv_at hl 3 rfl) ?_
  refine lv_iconst (v := 2) hx hb dL_law_885 (by decide) ?_
  refine lv_iadd hx hb dL_law_886 ?_
  refine lv_topi (fun x5 ex5 => ?_)
  obtain rfl : x5 = 2 := ex5.trans (by decide)
  refine va_sld hx hb hX hbl hbA hS (z_in (by decide : (2 : Int32).toInt = 2) (by omega) (by omega)) dL_law_887 ?_
  refine W.eq (g2 := F0 m 888 ls [.int (xs 2), .int (xs 1), .ref m0, .long (-1)]) rfl ?_
  have hPc := hP.sub (ws' := [(m0, .inr (9, [.int 0, u1, u2, u3, u4, .int 0, .int 0, .int 0, .int 0, u9, u10, u11, u12, u13, u14, u15, .int 0, u17, u18, u19, u20, u21, u22, u23, u24, u25, u26, u27, u28, u29, u30, u31, u32, u33, u34, u35, u36, u37, u38, u39, u40, u41, u42, u43, u44, u45, u46]))]) [1] rfl
  refine zc_l (va_runV (As := [.int (xs 1), .int (xs 2)]) (rest := [.long (-1)]) ⟨hx, hb, hml, hown, hg⟩ (c_X9_givings l g m0 (u1 : Value) (u2 : Value) (u3 : Value) (u4 : Value) (u9 : Value) (u10 : Value) (u11 : Value) (u12 : Value) (u13 : Value) (u14 : Value) (u15 : Value) (u17 : Value) (u18 : Value) (u19 : Value) (u20 : Value) (u21 : Value) (u22 : Value) (u23 : Value) (u24 : Value) (u25 : Value) (u26 : Value) (u27 : Value) (u28 : Value) (u29 : Value) (u30 : Value) (u31 : Value) (u32 : Value) (u33 : Value) (u34 : Value) (u35 : Value) (u36 : Value) (u37 : Value) (u38 : Value) (u39 : Value) (u40 : Value) (u41 : Value) (u42 : Value) (u43 : Value) (u44 : Value) (u45 : Value) (u46 : Value) (xs 1) (xs 2) ) (cwV 2 hg (z_gV mm_1324 mm_1325 mm_1326 mm_117 mm_1327) rfl rfl rfl (by decide +kernel) ⟨Nat.le_of_ble_eq_true rfl, Nat.le_of_ble_eq_true rfl⟩) ⟨(zR.pre [.ref m0, .int (xs 1), .int (xs 2)] hPc hK hN).1, va_recv hK hPc (ci := 9) (q0 := 0) rfl rfl, (zR.pre [.ref m0, .int (xs 1), .int (xs 2)] hPc hK hN).2⟩ rfl rfl hl.1 rfl (lv_room (Nat.le_of_ble_eq_true rfl)) dL_law_888 ⟨Nat.le_of_ble_eq_true rfl, Nat.le_of_ble_eq_true rfl⟩) (fun r6 hr6 => ?_)
  obtain rfl := hr6
  refine W.lcmp hx hb dL_law_891 ?_
  refine lv_topi (fun x7 ex7 => ?_)
  obtain rfl : x7 = 0 := ex7.trans (by decide)
  refine lv_if_eq (tgt := 1533) hx hb dL_law_892 (by decide) (fun c8 => ?_) (fun c8 => ?_)
  · skip
    refine lv_iinc (v := 6) (lv' := [(3, .int 6), (0, .ref b), (1, .ref x0), (2, .ref m0)]) hx hb dL_law_1533 hl (k := 3) rfl (by decide) (by decide) rfl (fun ls hl => ?_)
    refine lv_goto (tgt := 18) hx hb dL_law_1536 (by decide) ?_
    refine lv_iload_n hx hb dL_law_18 rfl (lv_at hl 0 rfl) ?_
    refine lv_aload_n hx hb dL_law_19 rfl (lv_at hl 1 rfl) ?_
    refine va_slen hx hb hX hbl hbA hS dL_law_20 ?_
    refine W.eq (g2 := F0 m 21 ls [.int 6, .int 6]) rfl ?_
    refine lv_bipush (v := 6) hx hb dL_law_21 (by decide) ?_
    refine lv_isub hx hb dL_law_23 ?_
    refine lv_topi (fun x9 ex9 => ?_)
    obtain rfl : x9 = 0 := ex9.trans (by decide)
    refine lv_icmp_gt (tgt := 1539) hx hb dL_law_24 (by decide) (fun c10 => ?_) (fun c10 => ?_)
    · skip
      refine lv_iconst (v := 1) hx hb dL_law_1539 (by decide) ?_
      refine va_forget (fun q hq => hA' _ (hS.2.2 q hq)) ?_
      refine W.widen (k := 600000) (n := 7302250) (Nat.le_of_ble_eq_true rfl) (Nat.le_of_ble_eq_true rfl) ?_
      exact lw_ret hx hb hr hlocks dL_law_1540
    · skip
      exact absurd c10 (by decide)
  · skip
    exact absurd c8 (by decide)

set_option maxHeartbeats 4000000 in
set_option maxRecDepth 100000 in
theorem op_blurring {p : Program} {e : Env} {s : State} {m : MethodId} {below : List Frame} {meth : Method} {c : Code} (l : Launch) {b : Nat} {xs : Nat → Int32} (C0 : lw_At p s m meth c b 6 xs) (g : zG) (hK : zK g s) (hN : zN s) (x0 : Nat) (aC : Value) (aW : Value) (aT : Nat) (aB : Value) (aL : Value) (aG : Value) (aM : Value) (aA : Value) (aU : Value) (aE : Value) (aD : Value) (aTb : Nat) (ft : Nat → Int32) (m0 : Nat) (u1 : Value) (u2 : Value) (u3 : Value) (u4 : Value) (u9 : Value) (u10 : Value) (u11 : Value) (u12 : Value) (u13 : Value) (u14 : Value) (u15 : Value) (u17 : Value) (u18 : Value) (u19 : Value) (u20 : Value) (u21 : Value) (u22 : Value) (u23 : Value) (u24 : Value) (u25 : Value) (u26 : Value) (u27 : Value) (u28 : Value) (u29 : Value) (u30 : Value) (u31 : Value) (u32 : Value) (u33 : Value) (u34 : Value) (u35 : Value) (u36 : Value) (u37 : Value) (u38 : Value) (u39 : Value) (u40 : Value) (u41 : Value) (u42 : Value) (u43 : Value) (u44 : Value) (u45 : Value) (u46 : Value) {A : Nat → Prop} (hA : ∀ q, s.heap.size ≤ q → A q) (hA' : ∀ q, A q → s.heap.size ≤ q) (H : Heap) (locs : List Loc) (hS : va_S A s.heap H locs) (hP : zP g [(x0, .inr (8, [aC, aW, .ref aT, aB, aL, aG, aM, aA, aU, aE, aD, .int 0, .int 0])), (aT, .inr (7, [.int 0, .ref aTb])), (aTb, .inl (g.2 0, 200, .inl ft)), (m0, .inr (9, [.int 0, u1, u2, u3, u4, .int 0, .int 0, .int 0, .int 0, u9, u10, u11, u12, u13, u14, u15, .int 0, u17, u18, u19, u20, u21, u22, u23, u24, u25, u26, u27, u28, u29, u30, u31, u32, u33, u34, u35, u36, u37, u38, u39, u40, u41, u42, u43, u44, u45, u46]))] H) (hD : va_D A [(x0, .inr (8, [aC, aW, .ref aT, aB, aL, aG, aM, aA, aU, aE, aD, .int 0, .int 0])), (aT, .inr (7, [.int 0, .ref aTb])), (aTb, .inl (g.2 0, 200, .inl ft)), (m0, .inr (9, [.int 0, u1, u2, u3, u4, .int 0, .int 0, .int 0, .int 0, u9, u10, u11, u12, u13, u14, u15, .int 0, u17, u18, u19, u20, u21, u22, u23, u24, u25, u26, u27, u28, u29, u30, u31, u32, u33, u34, u35, u36, u37, u38, u39, u40, u41, u42, u43, u44, u45, u46]))]) (ls : Array Slot) (hl : lv_has ls 4 [(0, .ref b), (1, .ref x0), (2, .ref m0), (3, .int 0)]) : W p l e room_1 s m #[Value.ref b] below meth c H locs 210 203560 (lw_Z below #[Value.ref b] s) (F0 m 1272 ls []) := by
  obtain ⟨hx, hb, hr, hml, hown, hts, hX, hbl, hlocks, hgv⟩ := C0
  have hg : ∀ w ∈ zGW, w.before #[Value.ref b] s = true := fun w h => hts w (List.mem_filter.mp h).1
  have hown : s.vm.findClass RL = some m.cls := hown
  have hbA : ¬ A b := fun h => absurd (hA' b h) (Nat.not_le.mpr hbl)
  refine lv_aload_n hx hb dL_law_1272 rfl (lv_at hl 1 rfl) ?_
  refine lv_aload_n hx hb dL_law_1273 rfl (lv_at hl 0 rfl) ?_
  refine lv_iload_n hx hb dL_law_1274 rfl (lv_at hl 3 rfl) ?_
  refine lv_iconst (v := 1) hx hb dL_law_1275 (by decide) ?_
  refine lv_iadd hx hb dL_law_1276 ?_
  refine lv_topi (fun x1 ex1 => ?_)
  obtain rfl : x1 = 1 := ex1.trans (by decide)
  refine va_sld hx hb hX hbl hbA hS (z_in (by decide : (1 : Int32).toInt = 1) (by omega) (by omega)) dL_law_1277 ?_
  refine W.eq (g2 := F0 m 1278 ls [.int (xs 1), .ref x0]) rfl ?_
  refine lv_aload_n hx hb dL_law_1278 rfl (lv_at hl 0 rfl) ?_
  refine lv_iload_n hx hb dL_law_1279 rfl (lv_at hl 3 rfl) ?_
  refine lv_iconst (v := 2) hx hb dL_law_1280 (by decide) ?_
  refine lv_iadd hx hb dL_law_1281 ?_
  refine lv_topi (fun x2 ex2 => ?_)
  obtain rfl : x2 = 2 := ex2.trans (by decide)
  refine va_sld hx hb hX hbl hbA hS (z_in (by decide : (2 : Int32).toInt = 2) (by omega) (by omega)) dL_law_1282 ?_
  refine W.eq (g2 := F0 m 1283 ls [.int (xs 2), .int (xs 1), .ref x0]) rfl ?_
  refine lv_aload_n hx hb dL_law_1283 rfl (lv_at hl 0 rfl) ?_
  refine lv_iload_n hx hb dL_law_1284 rfl (lv_at hl 3 rfl) ?_
  refine lv_iconst (v := 3) hx hb dL_law_1285 (by decide) ?_
  refine lv_iadd hx hb dL_law_1286 ?_
  refine lv_topi (fun x3 ex3 => ?_)
  obtain rfl : x3 = 3 := ex3.trans (by decide)
  refine va_sld hx hb hX hbl hbA hS (z_in (by decide : (3 : Int32).toInt = 3) (by omega) (by omega)) dL_law_1287 ?_
  refine W.eq (g2 := F0 m 1288 ls [.int (xs 3), .int (xs 2), .int (xs 1), .ref x0]) rfl ?_
  refine lv_aload_n hx hb dL_law_1288 rfl (lv_at hl 0 rfl) ?_
  refine lv_iload_n hx hb dL_law_1289 rfl (lv_at hl 3 rfl) ?_
  refine lv_iconst (v := 4) hx hb dL_law_1290 (by decide) ?_
  refine lv_iadd hx hb dL_law_1291 ?_
  refine lv_topi (fun x4 ex4 => ?_)
  obtain rfl : x4 = 4 := ex4.trans (by decide)
  refine va_sld hx hb hX hbl hbA hS (z_in (by decide : (4 : Int32).toInt = 4) (by omega) (by omega)) dL_law_1292 ?_
  refine W.eq (g2 := F0 m 1293 ls [.int (xs 4), .int (xs 3), .int (xs 2), .int (xs 1), .ref x0]) rfl ?_
  have hPc := hP.sub (ws' := [(x0, .inr (8, [aC, aW, .ref aT, aB, aL, aG, aM, aA, aU, aE, aD, .int 0, .int 0])), (aT, .inr (7, [.int 0, .ref aTb])), (aTb, .inl (g.2 0, 200, .inl ft))]) [0, 1, 2] rfl
  refine zc_i (va_runV (As := [.int (xs 1), .int (xs 2), .int (xs 3), .int (xs 4)]) (rest := []) ⟨hx, hb, hml, hown, hg⟩ (c_X8_blurring l g x0 (aC : Value) (aW : Value) aT (aB : Value) (aL : Value) (aG : Value) (aM : Value) (aA : Value) (aU : Value) (aE : Value) (aD : Value) aTb ft (xs 1) (xs 2) (xs 3) (xs 4) ) (cwV 4 hg (z_gV mm_849 mm_850 mm_851 mm_108 mm_852) rfl rfl rfl (by decide +kernel) ⟨Nat.le_of_ble_eq_true rfl, Nat.le_of_ble_eq_true rfl⟩) ⟨(zR.pre [.ref x0, .int (xs 1), .int (xs 2), .int (xs 3), .int (xs 4)] hPc hK hN).1, va_recv hK hPc (ci := 8) (q0 := 0) rfl rfl, (zR.pre [.ref x0, .int (xs 1), .int (xs 2), .int (xs 3), .int (xs 4)] hPc hK hN).2⟩ rfl rfl hl.1 rfl (lv_room (Nat.le_of_ble_eq_true rfl)) dL_law_1293 ⟨Nat.le_of_ble_eq_true rfl, Nat.le_of_ble_eq_true rfl⟩) (fun r5 hr5 => ?_)
  obtain rfl := hr5
  refine lv_aload_n hx hb dL_law_1296 rfl (lv_at hl 2 rfl) ?_
  refine lv_aload_n hx hb dL_law_1297 rfl (lv_at hl 0 rfl) ?_
  refine lv_iload_n hx hb dL_law_1298 rfl (lv_at hl 3 rfl) ?_
  refine lv_iconst (v := 1) hx hb dL_law_1299 (by decide) ?_
  refine lv_iadd hx hb dL_law_1300 ?_
  refine lv_topi (fun x6 ex6 => ?_)
  obtain rfl : x6 = 1 := ex6.trans (by decide)
  refine va_sld hx hb hX hbl hbA hS (z_in (by decide : (1 : Int32).toInt = 1) (by omega) (by omega)) dL_law_1301 ?_
  refine W.eq (g2 := F0 m 1302 ls [.int (xs 1), .ref m0, .int (-3)]) rfl ?_
  refine lv_aload_n hx hb dL_law_1302 rfl (lv_at hl 0 rfl) ?_
  refine lv_iload_n hx hb dL_law_1303 rfl (lv_at hl 3 rfl) ?_
  refine lv_iconst (v := 2) hx hb dL_law_1304 (by decide) ?_
  refine lv_iadd hx hb dL_law_1305 ?_
  refine lv_topi (fun x7 ex7 => ?_)
  obtain rfl : x7 = 2 := ex7.trans (by decide)
  refine va_sld hx hb hX hbl hbA hS (z_in (by decide : (2 : Int32).toInt = 2) (by omega) (by omega)) dL_law_1306 ?_
  refine W.eq (g2 := F0 m 1307 ls [.int (xs 2), .int (xs 1), .ref m0, .int (-3)]) rfl ?_
  refine lv_aload_n hx hb dL_law_1307 rfl (lv_at hl 0 rfl) ?_
  refine lv_iload_n hx hb dL_law_1308 rfl (lv_at hl 3 rfl) ?_
  refine lv_iconst (v := 3) hx hb dL_law_1309 (by decide) ?_
  refine lv_iadd hx hb dL_law_1310 ?_
  refine lv_topi (fun x8 ex8 => ?_)
  obtain rfl : x8 = 3 := ex8.trans (by decide)
  refine va_sld hx hb hX hbl hbA hS (z_in (by decide : (3 : Int32).toInt = 3) (by omega) (by omega)) dL_law_1311 ?_
  refine W.eq (g2 := F0 m 1312 ls [.int (xs 3), .int (xs 2), .int (xs 1), .ref m0, .int (-3)]) rfl ?_
  refine lv_aload_n hx hb dL_law_1312 rfl (lv_at hl 0 rfl) ?_
  refine lv_iload_n hx hb dL_law_1313 rfl (lv_at hl 3 rfl) ?_
  refine lv_iconst (v := 4) hx hb dL_law_1314 (by decide) ?_
  refine lv_iadd hx hb dL_law_1315 ?_
  refine lv_topi (fun x9 ex9 => ?_)
  obtain rfl : x9 = 4 := ex9.trans (by decide)
  refine va_sld hx hb hX hbl hbA hS (z_in (by decide : (4 : Int32).toInt = 4) (by omega) (by omega)) dL_law_1316 ?_
  refine W.eq (g2 := F0 m 1317 ls [.int (xs 4), .int (xs 3), .int (xs 2), .int (xs 1), .ref m0, .int (-3)]) rfl ?_
  have hPc := hP.sub (ws' := [(m0, .inr (9, [.int 0, u1, u2, u3, u4, .int 0, .int 0, .int 0, .int 0, u9, u10, u11, u12, u13, u14, u15, .int 0, u17, u18, u19, u20, u21, u22, u23, u24, u25, u26, u27, u28, u29, u30, u31, u32, u33, u34, u35, u36, u37, u38, u39, u40, u41, u42, u43, u44, u45, u46]))]) [3] rfl
  refine zc_i (va_runV (As := [.int (xs 1), .int (xs 2), .int (xs 3), .int (xs 4)]) (rest := [.int (-3)]) ⟨hx, hb, hml, hown, hg⟩ (c_X9_blurring l g m0 (u1 : Value) (u2 : Value) (u3 : Value) (u4 : Value) (u9 : Value) (u10 : Value) (u11 : Value) (u12 : Value) (u13 : Value) (u14 : Value) (u15 : Value) (u17 : Value) (u18 : Value) (u19 : Value) (u20 : Value) (u21 : Value) (u22 : Value) (u23 : Value) (u24 : Value) (u25 : Value) (u26 : Value) (u27 : Value) (u28 : Value) (u29 : Value) (u30 : Value) (u31 : Value) (u32 : Value) (u33 : Value) (u34 : Value) (u35 : Value) (u36 : Value) (u37 : Value) (u38 : Value) (u39 : Value) (u40 : Value) (u41 : Value) (u42 : Value) (u43 : Value) (u44 : Value) (u45 : Value) (u46 : Value) (xs 1) (xs 2) (xs 3) (xs 4) ) (cwV 4 hg (z_gV mm_1444 mm_1445 mm_1446 mm_117 mm_1447) rfl rfl rfl (by decide +kernel) ⟨Nat.le_of_ble_eq_true rfl, Nat.le_of_ble_eq_true rfl⟩) ⟨(zR.pre [.ref m0, .int (xs 1), .int (xs 2), .int (xs 3), .int (xs 4)] hPc hK hN).1, va_recv hK hPc (ci := 9) (q0 := 0) rfl rfl, (zR.pre [.ref m0, .int (xs 1), .int (xs 2), .int (xs 3), .int (xs 4)] hPc hK hN).2⟩ rfl rfl hl.1 rfl (lv_room (Nat.le_of_ble_eq_true rfl)) dL_law_1317 ⟨Nat.le_of_ble_eq_true rfl, Nat.le_of_ble_eq_true rfl⟩) (fun r10 hr10 => ?_)
  obtain rfl := hr10
  refine lv_icmp_eq (tgt := 1533) hx hb dL_law_1320 (by decide) (fun c11 => ?_) (fun c11 => ?_)
  · skip
    refine lv_iinc (v := 6) (lv' := [(3, .int 6), (0, .ref b), (1, .ref x0), (2, .ref m0)]) hx hb dL_law_1533 hl (k := 3) rfl (by decide) (by decide) rfl (fun ls hl => ?_)
    refine lv_goto (tgt := 18) hx hb dL_law_1536 (by decide) ?_
    refine lv_iload_n hx hb dL_law_18 rfl (lv_at hl 0 rfl) ?_
    refine lv_aload_n hx hb dL_law_19 rfl (lv_at hl 1 rfl) ?_
    refine va_slen hx hb hX hbl hbA hS dL_law_20 ?_
    refine W.eq (g2 := F0 m 21 ls [.int 6, .int 6]) rfl ?_
    refine lv_bipush (v := 6) hx hb dL_law_21 (by decide) ?_
    refine lv_isub hx hb dL_law_23 ?_
    refine lv_topi (fun x12 ex12 => ?_)
    obtain rfl : x12 = 0 := ex12.trans (by decide)
    refine lv_icmp_gt (tgt := 1539) hx hb dL_law_24 (by decide) (fun c13 => ?_) (fun c13 => ?_)
    · skip
      refine lv_iconst (v := 1) hx hb dL_law_1539 (by decide) ?_
      refine va_forget (fun q hq => hA' _ (hS.2.2 q hq)) ?_
      refine W.widen (k := 600000) (n := 7302250) (Nat.le_of_ble_eq_true rfl) (Nat.le_of_ble_eq_true rfl) ?_
      exact lw_ret hx hb hr hlocks dL_law_1540
    · skip
      exact absurd c13 (by decide)
  · skip
    exact absurd c11 (by decide)

set_option maxHeartbeats 4000000 in
set_option maxRecDepth 100000 in
theorem op_bestSwap {p : Program} {e : Env} {s : State} {m : MethodId} {below : List Frame} {meth : Method} {c : Code} (l : Launch) {b : Nat} {xs : Nat → Int32} (C0 : lw_At p s m meth c b 6 xs) (g : zG) (hK : zK g s) (hN : zN s) (x0 : Nat) (w0 : Value) (w1 : Value) (w2 : Value) (w3 : Value) (w4 : Value) (w5 : Value) (w6 : Value) (w7 : Value) (w8 : Value) (w9 : Value) (w10 : Value) (m0 : Nat) (u1 : Value) (u2 : Value) (u3 : Value) (u4 : Value) (u9 : Value) (u10 : Value) (u11 : Value) (u12 : Value) (u13 : Value) (u14 : Value) (u15 : Value) (u17 : Value) (u18 : Value) (u19 : Value) (u20 : Value) (u21 : Value) (u22 : Value) (u23 : Value) (u24 : Value) (u25 : Value) (u26 : Value) (u27 : Value) (u28 : Value) (u29 : Value) (u30 : Value) (u31 : Value) (u32 : Value) (u33 : Value) (u34 : Value) (u35 : Value) (u36 : Value) (u37 : Value) (u38 : Value) (u39 : Value) (u40 : Value) (u41 : Value) (u42 : Value) (u43 : Value) (u44 : Value) (u45 : Value) (u46 : Value) {A : Nat → Prop} (hA : ∀ q, s.heap.size ≤ q → A q) (hA' : ∀ q, A q → s.heap.size ≤ q) (H : Heap) (locs : List Loc) (hS : va_S A s.heap H locs) (hP : zP g [(x0, .inr (8, [w0, w1, w2, w3, w4, w5, w6, w7, w8, w9, w10, .int 0, .int 0])), (m0, .inr (9, [.int 0, u1, u2, u3, u4, .int 0, .int 0, .int 0, .int 0, u9, u10, u11, u12, u13, u14, u15, .int 0, u17, u18, u19, u20, u21, u22, u23, u24, u25, u26, u27, u28, u29, u30, u31, u32, u33, u34, u35, u36, u37, u38, u39, u40, u41, u42, u43, u44, u45, u46]))] H) (hD : va_D A [(x0, .inr (8, [w0, w1, w2, w3, w4, w5, w6, w7, w8, w9, w10, .int 0, .int 0])), (m0, .inr (9, [.int 0, u1, u2, u3, u4, .int 0, .int 0, .int 0, .int 0, u9, u10, u11, u12, u13, u14, u15, .int 0, u17, u18, u19, u20, u21, u22, u23, u24, u25, u26, u27, u28, u29, u30, u31, u32, u33, u34, u35, u36, u37, u38, u39, u40, u41, u42, u43, u44, u45, u46]))]) (ls : Array Slot) (hl : lv_has ls 4 [(0, .ref b), (1, .ref x0), (2, .ref m0), (3, .int 0)]) : W p l e room_1 s m #[Value.ref b] below meth c H locs 210 203560 (lw_Z below #[Value.ref b] s) (F0 m 1325 ls []) := by
  obtain ⟨hx, hb, hr, hml, hown, hts, hX, hbl, hlocks, hgv⟩ := C0
  have hg : ∀ w ∈ zGW, w.before #[Value.ref b] s = true := fun w h => hts w (List.mem_filter.mp h).1
  have hown : s.vm.findClass RL = some m.cls := hown
  have hbA : ¬ A b := fun h => absurd (hA' b h) (Nat.not_le.mpr hbl)
  refine lv_aload_n hx hb dL_law_1325 rfl (lv_at hl 1 rfl) ?_
  refine lv_aload_n hx hb dL_law_1326 rfl (lv_at hl 0 rfl) ?_
  refine lv_iload_n hx hb dL_law_1327 rfl (lv_at hl 3 rfl) ?_
  refine lv_iconst (v := 1) hx hb dL_law_1328 (by decide) ?_
  refine lv_iadd hx hb dL_law_1329 ?_
  refine lv_topi (fun x1 ex1 => ?_)
  obtain rfl : x1 = 1 := ex1.trans (by decide)
  refine va_sld hx hb hX hbl hbA hS (z_in (by decide : (1 : Int32).toInt = 1) (by omega) (by omega)) dL_law_1330 ?_
  refine W.eq (g2 := F0 m 1331 ls [.int (xs 1), .ref x0]) rfl ?_
  refine lv_aload_n hx hb dL_law_1331 rfl (lv_at hl 0 rfl) ?_
  refine lv_iload_n hx hb dL_law_1332 rfl (lv_at hl 3 rfl) ?_
  refine lv_iconst (v := 2) hx hb dL_law_1333 (by decide) ?_
  refine lv_iadd hx hb dL_law_1334 ?_
  refine lv_topi (fun x2 ex2 => ?_)
  obtain rfl : x2 = 2 := ex2.trans (by decide)
  refine va_sld hx hb hX hbl hbA hS (z_in (by decide : (2 : Int32).toInt = 2) (by omega) (by omega)) dL_law_1335 ?_
  refine W.eq (g2 := F0 m 1336 ls [.int (xs 2), .int (xs 1), .ref x0]) rfl ?_
  refine lv_aload_n hx hb dL_law_1336 rfl (lv_at hl 0 rfl) ?_
  refine lv_iload_n hx hb dL_law_1337 rfl (lv_at hl 3 rfl) ?_
  refine lv_iconst (v := 3) hx hb dL_law_1338 (by decide) ?_
  refine lv_iadd hx hb dL_law_1339 ?_
  refine lv_topi (fun x3 ex3 => ?_)
  obtain rfl : x3 = 3 := ex3.trans (by decide)
  refine va_sld hx hb hX hbl hbA hS (z_in (by decide : (3 : Int32).toInt = 3) (by omega) (by omega)) dL_law_1340 ?_
  refine W.eq (g2 := F0 m 1341 ls [.int (xs 3), .int (xs 2), .int (xs 1), .ref x0]) rfl ?_
  have hPc := hP.sub (ws' := [(x0, .inr (8, [w0, w1, w2, w3, w4, w5, w6, w7, w8, w9, w10, .int 0, .int 0]))]) [0] rfl
  refine zc_i (va_runV (As := [.int (xs 1), .int (xs 2), .int (xs 3)]) (rest := []) ⟨hx, hb, hml, hown, hg⟩ (c_X8_bestSwap l g x0 (w0 : Value) (w1 : Value) (w2 : Value) (w3 : Value) (w4 : Value) (w5 : Value) (w6 : Value) (w7 : Value) (w8 : Value) (w9 : Value) (w10 : Value) (xs 1) (xs 2) (xs 3) ) (cwV 3 hg (z_gV mm_905 mm_906 mm_907 mm_108 mm_908) rfl rfl rfl (by decide +kernel) ⟨Nat.le_of_ble_eq_true rfl, Nat.le_of_ble_eq_true rfl⟩) ⟨(zR.pre [.ref x0, .int (xs 1), .int (xs 2), .int (xs 3)] hPc hK hN).1, va_recv hK hPc (ci := 8) (q0 := 0) rfl rfl, (zR.pre [.ref x0, .int (xs 1), .int (xs 2), .int (xs 3)] hPc hK hN).2⟩ rfl rfl hl.1 rfl (lv_room (Nat.le_of_ble_eq_true rfl)) dL_law_1341 ⟨Nat.le_of_ble_eq_true rfl, Nat.le_of_ble_eq_true rfl⟩) (fun r4 hr4 => ?_)
  obtain rfl := hr4
  refine lv_aload_n hx hb dL_law_1344 rfl (lv_at hl 2 rfl) ?_
  refine lv_aload_n hx hb dL_law_1345 rfl (lv_at hl 0 rfl) ?_
  refine lv_iload_n hx hb dL_law_1346 rfl (lv_at hl 3 rfl) ?_
  refine lv_iconst (v := 1) hx hb dL_law_1347 (by decide) ?_
  refine lv_iadd hx hb dL_law_1348 ?_
  refine lv_topi (fun x5 ex5 => ?_)
  obtain rfl : x5 = 1 := ex5.trans (by decide)
  refine va_sld hx hb hX hbl hbA hS (z_in (by decide : (1 : Int32).toInt = 1) (by omega) (by omega)) dL_law_1349 ?_
  refine W.eq (g2 := F0 m 1350 ls [.int (xs 1), .ref m0, .int (-1)]) rfl ?_
  refine lv_aload_n hx hb dL_law_1350 rfl (lv_at hl 0 rfl) ?_
  refine lv_iload_n hx hb dL_law_1351 rfl (lv_at hl 3 rfl) ?_
  refine lv_iconst (v := 2) hx hb dL_law_1352 (by decide) ?_
  refine lv_iadd hx hb dL_law_1353 ?_
  refine lv_topi (fun x6 ex6 => ?_)
  obtain rfl : x6 = 2 := ex6.trans (by decide)
  refine va_sld hx hb hX hbl hbA hS (z_in (by decide : (2 : Int32).toInt = 2) (by omega) (by omega)) dL_law_1354 ?_
  refine W.eq (g2 := F0 m 1355 ls [.int (xs 2), .int (xs 1), .ref m0, .int (-1)]) rfl ?_
  refine lv_aload_n hx hb dL_law_1355 rfl (lv_at hl 0 rfl) ?_
  refine lv_iload_n hx hb dL_law_1356 rfl (lv_at hl 3 rfl) ?_
  refine lv_iconst (v := 3) hx hb dL_law_1357 (by decide) ?_
  refine lv_iadd hx hb dL_law_1358 ?_
  refine lv_topi (fun x7 ex7 => ?_)
  obtain rfl : x7 = 3 := ex7.trans (by decide)
  refine va_sld hx hb hX hbl hbA hS (z_in (by decide : (3 : Int32).toInt = 3) (by omega) (by omega)) dL_law_1359 ?_
  refine W.eq (g2 := F0 m 1360 ls [.int (xs 3), .int (xs 2), .int (xs 1), .ref m0, .int (-1)]) rfl ?_
  have hPc := hP.sub (ws' := [(m0, .inr (9, [.int 0, u1, u2, u3, u4, .int 0, .int 0, .int 0, .int 0, u9, u10, u11, u12, u13, u14, u15, .int 0, u17, u18, u19, u20, u21, u22, u23, u24, u25, u26, u27, u28, u29, u30, u31, u32, u33, u34, u35, u36, u37, u38, u39, u40, u41, u42, u43, u44, u45, u46]))]) [1] rfl
  refine zc_i (va_runV (As := [.int (xs 1), .int (xs 2), .int (xs 3)]) (rest := [.int (-1)]) ⟨hx, hb, hml, hown, hg⟩ (c_X9_bestSwap l g m0 (u1 : Value) (u2 : Value) (u3 : Value) (u4 : Value) (u9 : Value) (u10 : Value) (u11 : Value) (u12 : Value) (u13 : Value) (u14 : Value) (u15 : Value) (u17 : Value) (u18 : Value) (u19 : Value) (u20 : Value) (u21 : Value) (u22 : Value) (u23 : Value) (u24 : Value) (u25 : Value) (u26 : Value) (u27 : Value) (u28 : Value) (u29 : Value) (u30 : Value) (u31 : Value) (u32 : Value) (u33 : Value) (u34 : Value) (u35 : Value) (u36 : Value) (u37 : Value) (u38 : Value) (u39 : Value) (u40 : Value) (u41 : Value) (u42 : Value) (u43 : Value) (u44 : Value) (u45 : Value) (u46 : Value) (xs 1) (xs 2) (xs 3) ) (cwV 3 hg (z_gV mm_1460 mm_1461 mm_1462 mm_117 mm_1463) rfl rfl rfl (by decide +kernel) ⟨Nat.le_of_ble_eq_true rfl, Nat.le_of_ble_eq_true rfl⟩) ⟨(zR.pre [.ref m0, .int (xs 1), .int (xs 2), .int (xs 3)] hPc hK hN).1, va_recv hK hPc (ci := 9) (q0 := 0) rfl rfl, (zR.pre [.ref m0, .int (xs 1), .int (xs 2), .int (xs 3)] hPc hK hN).2⟩ rfl rfl hl.1 rfl (lv_room (Nat.le_of_ble_eq_true rfl)) dL_law_1360 ⟨Nat.le_of_ble_eq_true rfl, Nat.le_of_ble_eq_true rfl⟩) (fun r8 hr8 => ?_)
  obtain rfl := hr8
  refine lv_icmp_eq (tgt := 1533) hx hb dL_law_1363 (by decide) (fun c9 => ?_) (fun c9 => ?_)
  · skip
    refine lv_iinc (v := 6) (lv' := [(3, .int 6), (0, .ref b), (1, .ref x0), (2, .ref m0)]) hx hb dL_law_1533 hl (k := 3) rfl (by decide) (by decide) rfl (fun ls hl => ?_)
    refine lv_goto (tgt := 18) hx hb dL_law_1536 (by decide) ?_
    refine lv_iload_n hx hb dL_law_18 rfl (lv_at hl 0 rfl) ?_
    refine lv_aload_n hx hb dL_law_19 rfl (lv_at hl 1 rfl) ?_
    refine va_slen hx hb hX hbl hbA hS dL_law_20 ?_
    refine W.eq (g2 := F0 m 21 ls [.int 6, .int 6]) rfl ?_
    refine lv_bipush (v := 6) hx hb dL_law_21 (by decide) ?_
    refine lv_isub hx hb dL_law_23 ?_
    refine lv_topi (fun x10 ex10 => ?_)
    obtain rfl : x10 = 0 := ex10.trans (by decide)
    refine lv_icmp_gt (tgt := 1539) hx hb dL_law_24 (by decide) (fun c11 => ?_) (fun c11 => ?_)
    · skip
      refine lv_iconst (v := 1) hx hb dL_law_1539 (by decide) ?_
      refine va_forget (fun q hq => hA' _ (hS.2.2 q hq)) ?_
      refine W.widen (k := 600000) (n := 7302250) (Nat.le_of_ble_eq_true rfl) (Nat.le_of_ble_eq_true rfl) ?_
      exact lw_ret hx hb hr hlocks dL_law_1540
    · skip
      exact absurd c11 (by decide)
  · skip
    exact absurd c9 (by decide)

set_option maxHeartbeats 4000000 in
set_option maxRecDepth 100000 in
theorem op_together {p : Program} {e : Env} {s : State} {m : MethodId} {below : List Frame} {meth : Method} {c : Code} (l : Launch) {b : Nat} {xs : Nat → Int32} (C0 : lw_At p s m meth c b 6 xs) (g : zG) (hK : zK g s) (hN : zN s) (x0 : Nat) (w0 : Value) (w1 : Value) (w2 : Value) (w3 : Value) (w4 : Value) (w5 : Value) (w6 : Value) (w7 : Value) (w8 : Value) (w9 : Value) (w10 : Value) (m0 : Nat) (u1 : Value) (u2 : Value) (u3 : Value) (u4 : Value) (u9 : Value) (u10 : Value) (u11 : Value) (u12 : Value) (u13 : Value) (u14 : Value) (u15 : Value) (u17 : Value) (u18 : Value) (u19 : Value) (u20 : Value) (u21 : Value) (u22 : Value) (u23 : Value) (u24 : Value) (u25 : Value) (u26 : Value) (u27 : Value) (u28 : Value) (u29 : Value) (u30 : Value) (u31 : Value) (u32 : Value) (u33 : Value) (u34 : Value) (u35 : Value) (u36 : Value) (u37 : Value) (u38 : Value) (u39 : Value) (u40 : Value) (u41 : Value) (u42 : Value) (u43 : Value) (u44 : Value) (u45 : Value) (u46 : Value) {A : Nat → Prop} (hA : ∀ q, s.heap.size ≤ q → A q) (hA' : ∀ q, A q → s.heap.size ≤ q) (H : Heap) (locs : List Loc) (hS : va_S A s.heap H locs) (hP : zP g [(x0, .inr (8, [w0, w1, w2, w3, w4, w5, w6, w7, w8, w9, w10, .int 0, .int 0])), (m0, .inr (9, [.int 0, u1, u2, u3, u4, .int 0, .int 0, .int 0, .int 0, u9, u10, u11, u12, u13, u14, u15, .int 0, u17, u18, u19, u20, u21, u22, u23, u24, u25, u26, u27, u28, u29, u30, u31, u32, u33, u34, u35, u36, u37, u38, u39, u40, u41, u42, u43, u44, u45, u46]))] H) (hD : va_D A [(x0, .inr (8, [w0, w1, w2, w3, w4, w5, w6, w7, w8, w9, w10, .int 0, .int 0])), (m0, .inr (9, [.int 0, u1, u2, u3, u4, .int 0, .int 0, .int 0, .int 0, u9, u10, u11, u12, u13, u14, u15, .int 0, u17, u18, u19, u20, u21, u22, u23, u24, u25, u26, u27, u28, u29, u30, u31, u32, u33, u34, u35, u36, u37, u38, u39, u40, u41, u42, u43, u44, u45, u46]))]) (ls : Array Slot) (hl : lv_has ls 4 [(0, .ref b), (1, .ref x0), (2, .ref m0), (3, .int 0)]) : W p l e room_1 s m #[Value.ref b] below meth c H locs 210 203560 (lw_Z below #[Value.ref b] s) (F0 m 1368 ls []) := by
  obtain ⟨hx, hb, hr, hml, hown, hts, hX, hbl, hlocks, hgv⟩ := C0
  have hg : ∀ w ∈ zGW, w.before #[Value.ref b] s = true := fun w h => hts w (List.mem_filter.mp h).1
  have hown : s.vm.findClass RL = some m.cls := hown
  have hbA : ¬ A b := fun h => absurd (hA' b h) (Nat.not_le.mpr hbl)
  refine lv_aload_n hx hb dL_law_1368 rfl (lv_at hl 1 rfl) ?_
  refine lv_aload_n hx hb dL_law_1369 rfl (lv_at hl 0 rfl) ?_
  refine lv_iload_n hx hb dL_law_1370 rfl (lv_at hl 3 rfl) ?_
  refine lv_iconst (v := 1) hx hb dL_law_1371 (by decide) ?_
  refine lv_iadd hx hb dL_law_1372 ?_
  refine lv_topi (fun x1 ex1 => ?_)
  obtain rfl : x1 = 1 := ex1.trans (by decide)
  refine va_sld hx hb hX hbl hbA hS (z_in (by decide : (1 : Int32).toInt = 1) (by omega) (by omega)) dL_law_1373 ?_
  refine W.eq (g2 := F0 m 1374 ls [.int (xs 1), .ref x0]) rfl ?_
  refine lv_aload_n hx hb dL_law_1374 rfl (lv_at hl 0 rfl) ?_
  refine lv_iload_n hx hb dL_law_1375 rfl (lv_at hl 3 rfl) ?_
  refine lv_iconst (v := 2) hx hb dL_law_1376 (by decide) ?_
  refine lv_iadd hx hb dL_law_1377 ?_
  refine lv_topi (fun x2 ex2 => ?_)
  obtain rfl : x2 = 2 := ex2.trans (by decide)
  refine va_sld hx hb hX hbl hbA hS (z_in (by decide : (2 : Int32).toInt = 2) (by omega) (by omega)) dL_law_1378 ?_
  refine W.eq (g2 := F0 m 1379 ls [.int (xs 2), .int (xs 1), .ref x0]) rfl ?_
  have hPc := hP.sub (ws' := [(x0, .inr (8, [w0, w1, w2, w3, w4, w5, w6, w7, w8, w9, w10, .int 0, .int 0]))]) [0] rfl
  refine zc_i (va_runV (As := [.int (xs 1), .int (xs 2)]) (rest := []) ⟨hx, hb, hml, hown, hg⟩ (c_X8_together l g x0 (w0 : Value) (w1 : Value) (w2 : Value) (w3 : Value) (w4 : Value) (w5 : Value) (w6 : Value) (w7 : Value) (w8 : Value) (w9 : Value) (w10 : Value) (xs 1) (xs 2) ) (cwV 2 hg (z_gV mm_914 mm_915 mm_916 mm_108 mm_917) rfl rfl rfl (by decide +kernel) ⟨Nat.le_of_ble_eq_true rfl, Nat.le_of_ble_eq_true rfl⟩) ⟨(zR.pre [.ref x0, .int (xs 1), .int (xs 2)] hPc hK hN).1, va_recv hK hPc (ci := 8) (q0 := 0) rfl rfl, (zR.pre [.ref x0, .int (xs 1), .int (xs 2)] hPc hK hN).2⟩ rfl rfl hl.1 rfl (lv_room (Nat.le_of_ble_eq_true rfl)) dL_law_1379 ⟨Nat.le_of_ble_eq_true rfl, Nat.le_of_ble_eq_true rfl⟩) (fun r3 hr3 => ?_)
  rcases hr3 with hr3 | hr3
  · skip
    obtain ⟨rfl, h4⟩ := hr3
    have h4 : ¬ ((1 ≤ (xs 1).toInt ∧ (xs 1).toInt ≤ 16) ∧ 0 ≤ (xs 2).toInt ∧ (xs 2).toInt ≤ 2) := h4
    refine lv_aload_n hx hb dL_law_1382 rfl (lv_at hl 2 rfl) ?_
    refine lv_aload_n hx hb dL_law_1383 rfl (lv_at hl 0 rfl) ?_
    refine lv_iload_n hx hb dL_law_1384 rfl (lv_at hl 3 rfl) ?_
    refine lv_iconst (v := 1) hx hb dL_law_1385 (by decide) ?_
    refine lv_iadd hx hb dL_law_1386 ?_
    refine lv_topi (fun x5 ex5 => ?_)
    obtain rfl : x5 = 1 := ex5.trans (by decide)
    refine va_sld hx hb hX hbl hbA hS (z_in (by decide : (1 : Int32).toInt = 1) (by omega) (by omega)) dL_law_1387 ?_
    refine W.eq (g2 := F0 m 1388 ls [.int (xs 1), .ref m0, .int (-1)]) rfl ?_
    refine lv_aload_n hx hb dL_law_1388 rfl (lv_at hl 0 rfl) ?_
    refine lv_iload_n hx hb dL_law_1389 rfl (lv_at hl 3 rfl) ?_
    refine lv_iconst (v := 2) hx hb dL_law_1390 (by decide) ?_
    refine lv_iadd hx hb dL_law_1391 ?_
    refine lv_topi (fun x6 ex6 => ?_)
    obtain rfl : x6 = 2 := ex6.trans (by decide)
    refine va_sld hx hb hX hbl hbA hS (z_in (by decide : (2 : Int32).toInt = 2) (by omega) (by omega)) dL_law_1392 ?_
    refine W.eq (g2 := F0 m 1393 ls [.int (xs 2), .int (xs 1), .ref m0, .int (-1)]) rfl ?_
    have hPc := hP.sub (ws' := [(m0, .inr (9, [.int 0, u1, u2, u3, u4, .int 0, .int 0, .int 0, .int 0, u9, u10, u11, u12, u13, u14, u15, .int 0, u17, u18, u19, u20, u21, u22, u23, u24, u25, u26, u27, u28, u29, u30, u31, u32, u33, u34, u35, u36, u37, u38, u39, u40, u41, u42, u43, u44, u45, u46]))]) [1] rfl
    refine zc_i (va_runV (As := [.int (xs 1), .int (xs 2)]) (rest := [.int (-1)]) ⟨hx, hb, hml, hown, hg⟩ (c_X9_together l g m0 (u1 : Value) (u2 : Value) (u3 : Value) (u4 : Value) (u9 : Value) (u10 : Value) (u11 : Value) (u12 : Value) (u13 : Value) (u14 : Value) (u15 : Value) (u17 : Value) (u18 : Value) (u19 : Value) (u20 : Value) (u21 : Value) (u22 : Value) (u23 : Value) (u24 : Value) (u25 : Value) (u26 : Value) (u27 : Value) (u28 : Value) (u29 : Value) (u30 : Value) (u31 : Value) (u32 : Value) (u33 : Value) (u34 : Value) (u35 : Value) (u36 : Value) (u37 : Value) (u38 : Value) (u39 : Value) (u40 : Value) (u41 : Value) (u42 : Value) (u43 : Value) (u44 : Value) (u45 : Value) (u46 : Value) (xs 1) (xs 2) ) (cwV 2 hg (z_gV mm_1464 mm_1465 mm_1466 mm_117 mm_1467) rfl rfl rfl (by decide +kernel) ⟨Nat.le_of_ble_eq_true rfl, Nat.le_of_ble_eq_true rfl⟩) ⟨(zR.pre [.ref m0, .int (xs 1), .int (xs 2)] hPc hK hN).1, va_recv hK hPc (ci := 9) (q0 := 0) rfl rfl, (zR.pre [.ref m0, .int (xs 1), .int (xs 2)] hPc hK hN).2⟩ rfl rfl hl.1 rfl (lv_room (Nat.le_of_ble_eq_true rfl)) dL_law_1393 ⟨Nat.le_of_ble_eq_true rfl, Nat.le_of_ble_eq_true rfl⟩) (fun r7 hr7 => ?_)
    rcases hr7 with hr7 | hr7
    · skip
      obtain ⟨rfl, h8⟩ := hr7
      have h8 : ¬ ((1 ≤ (xs 1).toInt ∧ (xs 1).toInt ≤ 16) ∧ 0 ≤ (xs 2).toInt ∧ (xs 2).toInt ≤ 2) := h8
      refine lv_icmp_eq (tgt := 1533) hx hb dL_law_1396 (by decide) (fun c9 => ?_) (fun c9 => ?_)
      · skip
        refine lv_iinc (v := 6) (lv' := [(3, .int 6), (0, .ref b), (1, .ref x0), (2, .ref m0)]) hx hb dL_law_1533 hl (k := 3) rfl (by decide) (by decide) rfl (fun ls hl => ?_)
        refine lv_goto (tgt := 18) hx hb dL_law_1536 (by decide) ?_
        refine lv_iload_n hx hb dL_law_18 rfl (lv_at hl 0 rfl) ?_
        refine lv_aload_n hx hb dL_law_19 rfl (lv_at hl 1 rfl) ?_
        refine va_slen hx hb hX hbl hbA hS dL_law_20 ?_
        refine W.eq (g2 := F0 m 21 ls [.int 6, .int 6]) rfl ?_
        refine lv_bipush (v := 6) hx hb dL_law_21 (by decide) ?_
        refine lv_isub hx hb dL_law_23 ?_
        refine lv_topi (fun x10 ex10 => ?_)
        obtain rfl : x10 = 0 := ex10.trans (by decide)
        refine lv_icmp_gt (tgt := 1539) hx hb dL_law_24 (by decide) (fun c11 => ?_) (fun c11 => ?_)
        · skip
          refine lv_iconst (v := 1) hx hb dL_law_1539 (by decide) ?_
          refine va_forget (fun q hq => hA' _ (hS.2.2 q hq)) ?_
          refine W.widen (k := 600000) (n := 7302250) (Nat.le_of_ble_eq_true rfl) (Nat.le_of_ble_eq_true rfl) ?_
          exact lw_ret hx hb hr hlocks dL_law_1540
        · skip
          exact absurd c11 (by decide)
      · skip
        exact absurd c9 (by decide)
    · skip
      obtain ⟨rfl, h12⟩ := hr7
      have h12 : (1 ≤ (xs 1).toInt ∧ (xs 1).toInt ≤ 16) ∧ 0 ≤ (xs 2).toInt ∧ (xs 2).toInt ≤ 2 := h12
      exfalso
      omega
  · skip
    obtain ⟨rfl, h13⟩ := hr3
    have h13 : (1 ≤ (xs 1).toInt ∧ (xs 1).toInt ≤ 16) ∧ 0 ≤ (xs 2).toInt ∧ (xs 2).toInt ≤ 2 := h13
    refine lv_aload_n hx hb dL_law_1382 rfl (lv_at hl 2 rfl) ?_
    refine lv_aload_n hx hb dL_law_1383 rfl (lv_at hl 0 rfl) ?_
    refine lv_iload_n hx hb dL_law_1384 rfl (lv_at hl 3 rfl) ?_
    refine lv_iconst (v := 1) hx hb dL_law_1385 (by decide) ?_
    refine lv_iadd hx hb dL_law_1386 ?_
    refine lv_topi (fun x14 ex14 => ?_)
    obtain rfl : x14 = 1 := ex14.trans (by decide)
    refine va_sld hx hb hX hbl hbA hS (z_in (by decide : (1 : Int32).toInt = 1) (by omega) (by omega)) dL_law_1387 ?_
    refine W.eq (g2 := F0 m 1388 ls [.int (xs 1), .ref m0, .int (-2)]) rfl ?_
    refine lv_aload_n hx hb dL_law_1388 rfl (lv_at hl 0 rfl) ?_
    refine lv_iload_n hx hb dL_law_1389 rfl (lv_at hl 3 rfl) ?_
    refine lv_iconst (v := 2) hx hb dL_law_1390 (by decide) ?_
    refine lv_iadd hx hb dL_law_1391 ?_
    refine lv_topi (fun x15 ex15 => ?_)
    obtain rfl : x15 = 2 := ex15.trans (by decide)
    refine va_sld hx hb hX hbl hbA hS (z_in (by decide : (2 : Int32).toInt = 2) (by omega) (by omega)) dL_law_1392 ?_
    refine W.eq (g2 := F0 m 1393 ls [.int (xs 2), .int (xs 1), .ref m0, .int (-2)]) rfl ?_
    have hPc := hP.sub (ws' := [(m0, .inr (9, [.int 0, u1, u2, u3, u4, .int 0, .int 0, .int 0, .int 0, u9, u10, u11, u12, u13, u14, u15, .int 0, u17, u18, u19, u20, u21, u22, u23, u24, u25, u26, u27, u28, u29, u30, u31, u32, u33, u34, u35, u36, u37, u38, u39, u40, u41, u42, u43, u44, u45, u46]))]) [1] rfl
    refine zc_i (va_runV (As := [.int (xs 1), .int (xs 2)]) (rest := [.int (-2)]) ⟨hx, hb, hml, hown, hg⟩ (c_X9_together l g m0 (u1 : Value) (u2 : Value) (u3 : Value) (u4 : Value) (u9 : Value) (u10 : Value) (u11 : Value) (u12 : Value) (u13 : Value) (u14 : Value) (u15 : Value) (u17 : Value) (u18 : Value) (u19 : Value) (u20 : Value) (u21 : Value) (u22 : Value) (u23 : Value) (u24 : Value) (u25 : Value) (u26 : Value) (u27 : Value) (u28 : Value) (u29 : Value) (u30 : Value) (u31 : Value) (u32 : Value) (u33 : Value) (u34 : Value) (u35 : Value) (u36 : Value) (u37 : Value) (u38 : Value) (u39 : Value) (u40 : Value) (u41 : Value) (u42 : Value) (u43 : Value) (u44 : Value) (u45 : Value) (u46 : Value) (xs 1) (xs 2) ) (cwV 2 hg (z_gV mm_1464 mm_1465 mm_1466 mm_117 mm_1467) rfl rfl rfl (by decide +kernel) ⟨Nat.le_of_ble_eq_true rfl, Nat.le_of_ble_eq_true rfl⟩) ⟨(zR.pre [.ref m0, .int (xs 1), .int (xs 2)] hPc hK hN).1, va_recv hK hPc (ci := 9) (q0 := 0) rfl rfl, (zR.pre [.ref m0, .int (xs 1), .int (xs 2)] hPc hK hN).2⟩ rfl rfl hl.1 rfl (lv_room (Nat.le_of_ble_eq_true rfl)) dL_law_1393 ⟨Nat.le_of_ble_eq_true rfl, Nat.le_of_ble_eq_true rfl⟩) (fun r16 hr16 => ?_)
    rcases hr16 with hr16 | hr16
    · skip
      obtain ⟨rfl, h17⟩ := hr16
      have h17 : ¬ ((1 ≤ (xs 1).toInt ∧ (xs 1).toInt ≤ 16) ∧ 0 ≤ (xs 2).toInt ∧ (xs 2).toInt ≤ 2) := h17
      exfalso
      omega
    · skip
      obtain ⟨rfl, h18⟩ := hr16
      have h18 : (1 ≤ (xs 1).toInt ∧ (xs 1).toInt ≤ 16) ∧ 0 ≤ (xs 2).toInt ∧ (xs 2).toInt ≤ 2 := h18
      refine lv_icmp_eq (tgt := 1533) hx hb dL_law_1396 (by decide) (fun c19 => ?_) (fun c19 => ?_)
      · skip
        refine lv_iinc (v := 6) (lv' := [(3, .int 6), (0, .ref b), (1, .ref x0), (2, .ref m0)]) hx hb dL_law_1533 hl (k := 3) rfl (by decide) (by decide) rfl (fun ls hl => ?_)
        refine lv_goto (tgt := 18) hx hb dL_law_1536 (by decide) ?_
        refine lv_iload_n hx hb dL_law_18 rfl (lv_at hl 0 rfl) ?_
        refine lv_aload_n hx hb dL_law_19 rfl (lv_at hl 1 rfl) ?_
        refine va_slen hx hb hX hbl hbA hS dL_law_20 ?_
        refine W.eq (g2 := F0 m 21 ls [.int 6, .int 6]) rfl ?_
        refine lv_bipush (v := 6) hx hb dL_law_21 (by decide) ?_
        refine lv_isub hx hb dL_law_23 ?_
        refine lv_topi (fun x20 ex20 => ?_)
        obtain rfl : x20 = 0 := ex20.trans (by decide)
        refine lv_icmp_gt (tgt := 1539) hx hb dL_law_24 (by decide) (fun c21 => ?_) (fun c21 => ?_)
        · skip
          refine lv_iconst (v := 1) hx hb dL_law_1539 (by decide) ?_
          refine va_forget (fun q hq => hA' _ (hS.2.2 q hq)) ?_
          refine W.widen (k := 600000) (n := 7302250) (Nat.le_of_ble_eq_true rfl) (Nat.le_of_ble_eq_true rfl) ?_
          exact lw_ret hx hb hr hlocks dL_law_1540
        · skip
          exact absurd c21 (by decide)
      · skip
        exact absurd c19 (by decide)

set_option maxHeartbeats 4000000 in
set_option maxRecDepth 100000 in
theorem op_loss {p : Program} {e : Env} {s : State} {m : MethodId} {below : List Frame} {meth : Method} {c : Code} (l : Launch) {b : Nat} {xs : Nat → Int32} (C0 : lw_At p s m meth c b 6 xs) (g : zG) (hK : zK g s) (hN : zN s) (x0 : Nat) (w0 : Value) (w1 : Value) (w2 : Value) (w3 : Value) (w4 : Value) (w5 : Value) (w6 : Value) (w7 : Value) (w8 : Value) (w9 : Value) (w10 : Value) (m0 : Nat) (u1 : Value) (u2 : Value) (u3 : Value) (u4 : Value) (u9 : Value) (u10 : Value) (u11 : Value) (u12 : Value) (u13 : Value) (u14 : Value) (u15 : Value) (u17 : Value) (u18 : Value) (u19 : Value) (u20 : Value) (u21 : Value) (u22 : Value) (u23 : Value) (u24 : Value) (u25 : Value) (u26 : Value) (u27 : Value) (u28 : Value) (u29 : Value) (u30 : Value) (u31 : Value) (u32 : Value) (u33 : Value) (u34 : Value) (u35 : Value) (u36 : Value) (u37 : Value) (u38 : Value) (u39 : Value) (u40 : Value) (u41 : Value) (u42 : Value) (u43 : Value) (u44 : Value) (u45 : Value) (u46 : Value) {A : Nat → Prop} (hA : ∀ q, s.heap.size ≤ q → A q) (hA' : ∀ q, A q → s.heap.size ≤ q) (H : Heap) (locs : List Loc) (hS : va_S A s.heap H locs) (hP : zP g [(x0, .inr (8, [w0, w1, w2, w3, w4, w5, w6, w7, w8, w9, w10, .int 0, .int 0])), (m0, .inr (9, [.int 0, u1, u2, u3, u4, .int 0, .int 0, .int 0, .int 0, u9, u10, u11, u12, u13, u14, u15, .int 0, u17, u18, u19, u20, u21, u22, u23, u24, u25, u26, u27, u28, u29, u30, u31, u32, u33, u34, u35, u36, u37, u38, u39, u40, u41, u42, u43, u44, u45, u46]))] H) (hD : va_D A [(x0, .inr (8, [w0, w1, w2, w3, w4, w5, w6, w7, w8, w9, w10, .int 0, .int 0])), (m0, .inr (9, [.int 0, u1, u2, u3, u4, .int 0, .int 0, .int 0, .int 0, u9, u10, u11, u12, u13, u14, u15, .int 0, u17, u18, u19, u20, u21, u22, u23, u24, u25, u26, u27, u28, u29, u30, u31, u32, u33, u34, u35, u36, u37, u38, u39, u40, u41, u42, u43, u44, u45, u46]))]) (ls : Array Slot) (hl : lv_has ls 4 [(0, .ref b), (1, .ref x0), (2, .ref m0), (3, .int 0)]) : W p l e room_1 s m #[Value.ref b] below meth c H locs 210 203560 (lw_Z below #[Value.ref b] s) (F0 m 1401 ls []) := by
  obtain ⟨hx, hb, hr, hml, hown, hts, hX, hbl, hlocks, hgv⟩ := C0
  have hg : ∀ w ∈ zGW, w.before #[Value.ref b] s = true := fun w h => hts w (List.mem_filter.mp h).1
  have hown : s.vm.findClass RL = some m.cls := hown
  have hbA : ¬ A b := fun h => absurd (hA' b h) (Nat.not_le.mpr hbl)
  refine lv_aload_n hx hb dL_law_1401 rfl (lv_at hl 1 rfl) ?_
  refine lv_aload_n hx hb dL_law_1402 rfl (lv_at hl 0 rfl) ?_
  refine lv_iload_n hx hb dL_law_1403 rfl (lv_at hl 3 rfl) ?_
  refine lv_iconst (v := 1) hx hb dL_law_1404 (by decide) ?_
  refine lv_iadd hx hb dL_law_1405 ?_
  refine lv_topi (fun x1 ex1 => ?_)
  obtain rfl : x1 = 1 := ex1.trans (by decide)
  refine va_sld hx hb hX hbl hbA hS (z_in (by decide : (1 : Int32).toInt = 1) (by omega) (by omega)) dL_law_1406 ?_
  refine W.eq (g2 := F0 m 1407 ls [.int (xs 1), .ref x0]) rfl ?_
  have hPc := hP.sub (ws' := [(x0, .inr (8, [w0, w1, w2, w3, w4, w5, w6, w7, w8, w9, w10, .int 0, .int 0]))]) [0] rfl
  refine zc_i (va_runV (As := [.int (xs 1)]) (rest := []) ⟨hx, hb, hml, hown, hg⟩ (c_X8_loss l g x0 (w0 : Value) (w1 : Value) (w2 : Value) (w3 : Value) (w4 : Value) (w5 : Value) (w6 : Value) (w7 : Value) (w8 : Value) (w9 : Value) (w10 : Value) (xs 1) ) (cwV 1 hg (z_gV mm_922 mm_923 mm_924 mm_108 mm_925) rfl rfl rfl (by decide +kernel) ⟨Nat.le_of_ble_eq_true rfl, Nat.le_of_ble_eq_true rfl⟩) ⟨(zR.pre [.ref x0, .int (xs 1)] hPc hK hN).1, va_recv hK hPc (ci := 8) (q0 := 0) rfl rfl, (zR.pre [.ref x0, .int (xs 1)] hPc hK hN).2⟩ rfl rfl hl.1 rfl (lv_room (Nat.le_of_ble_eq_true rfl)) dL_law_1407 ⟨Nat.le_of_ble_eq_true rfl, Nat.le_of_ble_eq_true rfl⟩) (fun r2 hr2 => ?_)
  obtain rfl := hr2
  refine lv_aload_n hx hb dL_law_1410 rfl (lv_at hl 2 rfl) ?_
  refine lv_aload_n hx hb dL_law_1411 rfl (lv_at hl 0 rfl) ?_
  refine lv_iload_n hx hb dL_law_1412 rfl (lv_at hl 3 rfl) ?_
  refine lv_iconst (v := 1) hx hb dL_law_1413 (by decide) ?_
  refine lv_iadd hx hb dL_law_1414 ?_
  refine lv_topi (fun x3 ex3 => ?_)
  obtain rfl : x3 = 1 := ex3.trans (by decide)
  refine va_sld hx hb hX hbl hbA hS (z_in (by decide : (1 : Int32).toInt = 1) (by omega) (by omega)) dL_law_1415 ?_
  refine W.eq (g2 := F0 m 1416 ls [.int (xs 1), .ref m0, .int (-1)]) rfl ?_
  have hPc := hP.sub (ws' := [(m0, .inr (9, [.int 0, u1, u2, u3, u4, .int 0, .int 0, .int 0, .int 0, u9, u10, u11, u12, u13, u14, u15, .int 0, u17, u18, u19, u20, u21, u22, u23, u24, u25, u26, u27, u28, u29, u30, u31, u32, u33, u34, u35, u36, u37, u38, u39, u40, u41, u42, u43, u44, u45, u46]))]) [1] rfl
  refine zc_i (va_runV (As := [.int (xs 1)]) (rest := [.int (-1)]) ⟨hx, hb, hml, hown, hg⟩ (c_X9_loss l g m0 (u1 : Value) (u2 : Value) (u3 : Value) (u4 : Value) (u9 : Value) (u10 : Value) (u11 : Value) (u12 : Value) (u13 : Value) (u14 : Value) (u15 : Value) (u17 : Value) (u18 : Value) (u19 : Value) (u20 : Value) (u21 : Value) (u22 : Value) (u23 : Value) (u24 : Value) (u25 : Value) (u26 : Value) (u27 : Value) (u28 : Value) (u29 : Value) (u30 : Value) (u31 : Value) (u32 : Value) (u33 : Value) (u34 : Value) (u35 : Value) (u36 : Value) (u37 : Value) (u38 : Value) (u39 : Value) (u40 : Value) (u41 : Value) (u42 : Value) (u43 : Value) (u44 : Value) (u45 : Value) (u46 : Value) (xs 1) ) (cwV 1 hg (z_gV mm_1472 mm_1473 mm_1474 mm_117 mm_1475) rfl rfl rfl (by decide +kernel) ⟨Nat.le_of_ble_eq_true rfl, Nat.le_of_ble_eq_true rfl⟩) ⟨(zR.pre [.ref m0, .int (xs 1)] hPc hK hN).1, va_recv hK hPc (ci := 9) (q0 := 0) rfl rfl, (zR.pre [.ref m0, .int (xs 1)] hPc hK hN).2⟩ rfl rfl hl.1 rfl (lv_room (Nat.le_of_ble_eq_true rfl)) dL_law_1416 ⟨Nat.le_of_ble_eq_true rfl, Nat.le_of_ble_eq_true rfl⟩) (fun r4 hr4 => ?_)
  obtain rfl := hr4
  refine lv_icmp_eq (tgt := 1533) hx hb dL_law_1419 (by decide) (fun c5 => ?_) (fun c5 => ?_)
  · skip
    refine lv_iinc (v := 6) (lv' := [(3, .int 6), (0, .ref b), (1, .ref x0), (2, .ref m0)]) hx hb dL_law_1533 hl (k := 3) rfl (by decide) (by decide) rfl (fun ls hl => ?_)
    refine lv_goto (tgt := 18) hx hb dL_law_1536 (by decide) ?_
    refine lv_iload_n hx hb dL_law_18 rfl (lv_at hl 0 rfl) ?_
    refine lv_aload_n hx hb dL_law_19 rfl (lv_at hl 1 rfl) ?_
    refine va_slen hx hb hX hbl hbA hS dL_law_20 ?_
    refine W.eq (g2 := F0 m 21 ls [.int 6, .int 6]) rfl ?_
    refine lv_bipush (v := 6) hx hb dL_law_21 (by decide) ?_
    refine lv_isub hx hb dL_law_23 ?_
    refine lv_topi (fun x6 ex6 => ?_)
    obtain rfl : x6 = 0 := ex6.trans (by decide)
    refine lv_icmp_gt (tgt := 1539) hx hb dL_law_24 (by decide) (fun c7 => ?_) (fun c7 => ?_)
    · skip
      refine lv_iconst (v := 1) hx hb dL_law_1539 (by decide) ?_
      refine va_forget (fun q hq => hA' _ (hS.2.2 q hq)) ?_
      refine W.widen (k := 600000) (n := 7302250) (Nat.le_of_ble_eq_true rfl) (Nat.le_of_ble_eq_true rfl) ?_
      exact lw_ret hx hb hr hlocks dL_law_1540
    · skip
      exact absurd c7 (by decide)
  · skip
    exact absurd c5 (by decide)

set_option maxHeartbeats 4000000 in
set_option maxRecDepth 100000 in
theorem op_linesOf {p : Program} {e : Env} {s : State} {m : MethodId} {below : List Frame} {meth : Method} {c : Code} (l : Launch) {b : Nat} {xs : Nat → Int32} (C0 : lw_At p s m meth c b 6 xs) (g : zG) (hK : zK g s) (hN : zN s) (x0 : Nat) (w0 : Value) (w1 : Value) (w2 : Value) (w3 : Value) (w4 : Value) (w5 : Value) (w6 : Value) (w7 : Value) (w8 : Value) (w9 : Value) (w10 : Value) (m0 : Nat) (u1 : Value) (u2 : Value) (u3 : Value) (u4 : Value) (u9 : Value) (u10 : Value) (u11 : Value) (u12 : Value) (u13 : Value) (u14 : Value) (u15 : Value) (u17 : Value) (u18 : Value) (u19 : Value) (u20 : Value) (u21 : Value) (u22 : Value) (u23 : Value) (u24 : Value) (u25 : Value) (u26 : Value) (u27 : Value) (u28 : Value) (u29 : Value) (u30 : Value) (u31 : Value) (u32 : Value) (u33 : Value) (u34 : Value) (u35 : Value) (u36 : Value) (u37 : Value) (u38 : Value) (u39 : Value) (u40 : Value) (u41 : Value) (u42 : Value) (u43 : Value) (u44 : Value) (u45 : Value) (u46 : Value) {A : Nat → Prop} (hA : ∀ q, s.heap.size ≤ q → A q) (hA' : ∀ q, A q → s.heap.size ≤ q) (H : Heap) (locs : List Loc) (hS : va_S A s.heap H locs) (hP : zP g [(x0, .inr (8, [w0, w1, w2, w3, w4, w5, w6, w7, w8, w9, w10, .int 0, .int 0])), (m0, .inr (9, [.int 0, u1, u2, u3, u4, .int 0, .int 0, .int 0, .int 0, u9, u10, u11, u12, u13, u14, u15, .int 0, u17, u18, u19, u20, u21, u22, u23, u24, u25, u26, u27, u28, u29, u30, u31, u32, u33, u34, u35, u36, u37, u38, u39, u40, u41, u42, u43, u44, u45, u46]))] H) (hD : va_D A [(x0, .inr (8, [w0, w1, w2, w3, w4, w5, w6, w7, w8, w9, w10, .int 0, .int 0])), (m0, .inr (9, [.int 0, u1, u2, u3, u4, .int 0, .int 0, .int 0, .int 0, u9, u10, u11, u12, u13, u14, u15, .int 0, u17, u18, u19, u20, u21, u22, u23, u24, u25, u26, u27, u28, u29, u30, u31, u32, u33, u34, u35, u36, u37, u38, u39, u40, u41, u42, u43, u44, u45, u46]))]) (ls : Array Slot) (hl : lv_has ls 4 [(0, .ref b), (1, .ref x0), (2, .ref m0), (3, .int 0)]) : W p l e room_1 s m #[Value.ref b] below meth c H locs 210 203560 (lw_Z below #[Value.ref b] s) (F0 m 1424 ls []) := by
  obtain ⟨hx, hb, hr, hml, hown, hts, hX, hbl, hlocks, hgv⟩ := C0
  have hg : ∀ w ∈ zGW, w.before #[Value.ref b] s = true := fun w h => hts w (List.mem_filter.mp h).1
  have hown : s.vm.findClass RL = some m.cls := hown
  have hbA : ¬ A b := fun h => absurd (hA' b h) (Nat.not_le.mpr hbl)
  refine lv_aload_n hx hb dL_law_1424 rfl (lv_at hl 1 rfl) ?_
  refine lv_aload_n hx hb dL_law_1425 rfl (lv_at hl 0 rfl) ?_
  refine lv_iload_n hx hb dL_law_1426 rfl (lv_at hl 3 rfl) ?_
  refine lv_iconst (v := 1) hx hb dL_law_1427 (by decide) ?_
  refine lv_iadd hx hb dL_law_1428 ?_
  refine lv_topi (fun x1 ex1 => ?_)
  obtain rfl : x1 = 1 := ex1.trans (by decide)
  refine va_sld hx hb hX hbl hbA hS (z_in (by decide : (1 : Int32).toInt = 1) (by omega) (by omega)) dL_law_1429 ?_
  refine W.eq (g2 := F0 m 1430 ls [.int (xs 1), .ref x0]) rfl ?_
  refine lv_aload_n hx hb dL_law_1430 rfl (lv_at hl 0 rfl) ?_
  refine lv_iload_n hx hb dL_law_1431 rfl (lv_at hl 3 rfl) ?_
  refine lv_iconst (v := 2) hx hb dL_law_1432 (by decide) ?_
  refine lv_iadd hx hb dL_law_1433 ?_
  refine lv_topi (fun x2 ex2 => ?_)
  obtain rfl : x2 = 2 := ex2.trans (by decide)
  refine va_sld hx hb hX hbl hbA hS (z_in (by decide : (2 : Int32).toInt = 2) (by omega) (by omega)) dL_law_1434 ?_
  refine W.eq (g2 := F0 m 1435 ls [.int (xs 2), .int (xs 1), .ref x0]) rfl ?_
  refine lv_aload_n hx hb dL_law_1435 rfl (lv_at hl 0 rfl) ?_
  refine lv_iload_n hx hb dL_law_1436 rfl (lv_at hl 3 rfl) ?_
  refine lv_iconst (v := 3) hx hb dL_law_1437 (by decide) ?_
  refine lv_iadd hx hb dL_law_1438 ?_
  refine lv_topi (fun x3 ex3 => ?_)
  obtain rfl : x3 = 3 := ex3.trans (by decide)
  refine va_sld hx hb hX hbl hbA hS (z_in (by decide : (3 : Int32).toInt = 3) (by omega) (by omega)) dL_law_1439 ?_
  refine W.eq (g2 := F0 m 1440 ls [.int (xs 3), .int (xs 2), .int (xs 1), .ref x0]) rfl ?_
  have hPc := hP.sub (ws' := [(x0, .inr (8, [w0, w1, w2, w3, w4, w5, w6, w7, w8, w9, w10, .int 0, .int 0]))]) [0] rfl
  refine zc_i (va_runV (As := [.int (xs 1), .int (xs 2), .int (xs 3)]) (rest := []) ⟨hx, hb, hml, hown, hg⟩ (c_X8_linesOf l g x0 (w0 : Value) (w1 : Value) (w2 : Value) (w3 : Value) (w4 : Value) (w5 : Value) (w6 : Value) (w7 : Value) (w8 : Value) (w9 : Value) (w10 : Value) (xs 1) (xs 2) (xs 3) ) (cwV 3 hg (z_gV mm_930 mm_931 mm_932 mm_108 mm_933) rfl rfl rfl (by decide +kernel) ⟨Nat.le_of_ble_eq_true rfl, Nat.le_of_ble_eq_true rfl⟩) ⟨(zR.pre [.ref x0, .int (xs 1), .int (xs 2), .int (xs 3)] hPc hK hN).1, va_recv hK hPc (ci := 8) (q0 := 0) rfl rfl, (zR.pre [.ref x0, .int (xs 1), .int (xs 2), .int (xs 3)] hPc hK hN).2⟩ rfl rfl hl.1 rfl (lv_room (Nat.le_of_ble_eq_true rfl)) dL_law_1440 ⟨Nat.le_of_ble_eq_true rfl, Nat.le_of_ble_eq_true rfl⟩) (fun r4 hr4 => ?_)
  obtain rfl := hr4
  refine lv_aload_n hx hb dL_law_1443 rfl (lv_at hl 2 rfl) ?_
  refine lv_aload_n hx hb dL_law_1444 rfl (lv_at hl 0 rfl) ?_
  refine lv_iload_n hx hb dL_law_1445 rfl (lv_at hl 3 rfl) ?_
  refine lv_iconst (v := 1) hx hb dL_law_1446 (by decide) ?_
  refine lv_iadd hx hb dL_law_1447 ?_
  refine lv_topi (fun x5 ex5 => ?_)
  obtain rfl : x5 = 1 := ex5.trans (by decide)
  refine va_sld hx hb hX hbl hbA hS (z_in (by decide : (1 : Int32).toInt = 1) (by omega) (by omega)) dL_law_1448 ?_
  refine W.eq (g2 := F0 m 1449 ls [.int (xs 1), .ref m0, .int (-1)]) rfl ?_
  refine lv_aload_n hx hb dL_law_1449 rfl (lv_at hl 0 rfl) ?_
  refine lv_iload_n hx hb dL_law_1450 rfl (lv_at hl 3 rfl) ?_
  refine lv_iconst (v := 2) hx hb dL_law_1451 (by decide) ?_
  refine lv_iadd hx hb dL_law_1452 ?_
  refine lv_topi (fun x6 ex6 => ?_)
  obtain rfl : x6 = 2 := ex6.trans (by decide)
  refine va_sld hx hb hX hbl hbA hS (z_in (by decide : (2 : Int32).toInt = 2) (by omega) (by omega)) dL_law_1453 ?_
  refine W.eq (g2 := F0 m 1454 ls [.int (xs 2), .int (xs 1), .ref m0, .int (-1)]) rfl ?_
  refine lv_aload_n hx hb dL_law_1454 rfl (lv_at hl 0 rfl) ?_
  refine lv_iload_n hx hb dL_law_1455 rfl (lv_at hl 3 rfl) ?_
  refine lv_iconst (v := 3) hx hb dL_law_1456 (by decide) ?_
  refine lv_iadd hx hb dL_law_1457 ?_
  refine lv_topi (fun x7 ex7 => ?_)
  obtain rfl : x7 = 3 := ex7.trans (by decide)
  refine va_sld hx hb hX hbl hbA hS (z_in (by decide : (3 : Int32).toInt = 3) (by omega) (by omega)) dL_law_1458 ?_
  refine W.eq (g2 := F0 m 1459 ls [.int (xs 3), .int (xs 2), .int (xs 1), .ref m0, .int (-1)]) rfl ?_
  have hPc := hP.sub (ws' := [(m0, .inr (9, [.int 0, u1, u2, u3, u4, .int 0, .int 0, .int 0, .int 0, u9, u10, u11, u12, u13, u14, u15, .int 0, u17, u18, u19, u20, u21, u22, u23, u24, u25, u26, u27, u28, u29, u30, u31, u32, u33, u34, u35, u36, u37, u38, u39, u40, u41, u42, u43, u44, u45, u46]))]) [1] rfl
  refine zc_i (va_runV (As := [.int (xs 1), .int (xs 2), .int (xs 3)]) (rest := [.int (-1)]) ⟨hx, hb, hml, hown, hg⟩ (c_X9_linesOf l g m0 (u1 : Value) (u2 : Value) (u3 : Value) (u4 : Value) (u9 : Value) (u10 : Value) (u11 : Value) (u12 : Value) (u13 : Value) (u14 : Value) (u15 : Value) (u17 : Value) (u18 : Value) (u19 : Value) (u20 : Value) (u21 : Value) (u22 : Value) (u23 : Value) (u24 : Value) (u25 : Value) (u26 : Value) (u27 : Value) (u28 : Value) (u29 : Value) (u30 : Value) (u31 : Value) (u32 : Value) (u33 : Value) (u34 : Value) (u35 : Value) (u36 : Value) (u37 : Value) (u38 : Value) (u39 : Value) (u40 : Value) (u41 : Value) (u42 : Value) (u43 : Value) (u44 : Value) (u45 : Value) (u46 : Value) (xs 1) (xs 2) (xs 3) ) (cwV 3 hg (z_gV mm_1411 mm_1412 mm_1413 mm_117 mm_1414) rfl rfl rfl (by decide +kernel) ⟨Nat.le_of_ble_eq_true rfl, Nat.le_of_ble_eq_true rfl⟩) ⟨(zR.pre [.ref m0, .int (xs 1), .int (xs 2), .int (xs 3)] hPc hK hN).1, va_recv hK hPc (ci := 9) (q0 := 0) rfl rfl, (zR.pre [.ref m0, .int (xs 1), .int (xs 2), .int (xs 3)] hPc hK hN).2⟩ rfl rfl hl.1 rfl (lv_room (Nat.le_of_ble_eq_true rfl)) dL_law_1459 ⟨Nat.le_of_ble_eq_true rfl, Nat.le_of_ble_eq_true rfl⟩) (fun r8 hr8 => ?_)
  obtain rfl := hr8
  refine lv_icmp_eq (tgt := 1533) hx hb dL_law_1462 (by decide) (fun c9 => ?_) (fun c9 => ?_)
  · skip
    refine lv_iinc (v := 6) (lv' := [(3, .int 6), (0, .ref b), (1, .ref x0), (2, .ref m0)]) hx hb dL_law_1533 hl (k := 3) rfl (by decide) (by decide) rfl (fun ls hl => ?_)
    refine lv_goto (tgt := 18) hx hb dL_law_1536 (by decide) ?_
    refine lv_iload_n hx hb dL_law_18 rfl (lv_at hl 0 rfl) ?_
    refine lv_aload_n hx hb dL_law_19 rfl (lv_at hl 1 rfl) ?_
    refine va_slen hx hb hX hbl hbA hS dL_law_20 ?_
    refine W.eq (g2 := F0 m 21 ls [.int 6, .int 6]) rfl ?_
    refine lv_bipush (v := 6) hx hb dL_law_21 (by decide) ?_
    refine lv_isub hx hb dL_law_23 ?_
    refine lv_topi (fun x10 ex10 => ?_)
    obtain rfl : x10 = 0 := ex10.trans (by decide)
    refine lv_icmp_gt (tgt := 1539) hx hb dL_law_24 (by decide) (fun c11 => ?_) (fun c11 => ?_)
    · skip
      refine lv_iconst (v := 1) hx hb dL_law_1539 (by decide) ?_
      refine va_forget (fun q hq => hA' _ (hS.2.2 q hq)) ?_
      refine W.widen (k := 600000) (n := 7302250) (Nat.le_of_ble_eq_true rfl) (Nat.le_of_ble_eq_true rfl) ?_
      exact lw_ret hx hb hr hlocks dL_law_1540
    · skip
      exact absurd c11 (by decide)
  · skip
    exact absurd c9 (by decide)

set_option maxHeartbeats 4000000 in
set_option maxRecDepth 100000 in
theorem op_check {p : Program} {e : Env} {s : State} {m : MethodId} {below : List Frame} {meth : Method} {c : Code} (l : Launch) {b : Nat} {xs : Nat → Int32} (C0 : lw_At p s m meth c b 6 xs) (g : zG) (hK : zK g s) (hN : zN s) (x0 : Nat) (w0 : Value) (w1 : Value) (w2 : Value) (w3 : Value) (w4 : Value) (w5 : Value) (w6 : Value) (w7 : Value) (w8 : Value) (w9 : Value) (w10 : Value) (m0 : Nat) (u1 : Value) (u2 : Value) (u3 : Value) (u4 : Value) (u9 : Value) (u10 : Value) (u11 : Value) (u12 : Value) (u13 : Value) (u14 : Value) (u15 : Value) (u17 : Value) (u18 : Value) (u19 : Value) (u20 : Value) (u21 : Value) (u22 : Value) (u23 : Value) (u24 : Value) (u25 : Value) (u26 : Value) (u27 : Value) (u28 : Value) (u29 : Value) (u30 : Value) (u31 : Value) (u32 : Value) (u33 : Value) (u34 : Value) (u35 : Value) (u36 : Value) (u37 : Value) (u38 : Value) (u39 : Value) (u40 : Value) (u41 : Value) (u42 : Value) (u43 : Value) (u44 : Value) (u45 : Value) (u46 : Value) {A : Nat → Prop} (hA : ∀ q, s.heap.size ≤ q → A q) (hA' : ∀ q, A q → s.heap.size ≤ q) (H : Heap) (locs : List Loc) (hS : va_S A s.heap H locs) (hP : zP g [(x0, .inr (8, [w0, w1, w2, w3, w4, w5, w6, w7, w8, w9, w10, .int 0, .int 0])), (m0, .inr (9, [.int 0, u1, u2, u3, u4, .int 0, .int 0, .int 0, .int 0, u9, u10, u11, u12, u13, u14, u15, .int 0, u17, u18, u19, u20, u21, u22, u23, u24, u25, u26, u27, u28, u29, u30, u31, u32, u33, u34, u35, u36, u37, u38, u39, u40, u41, u42, u43, u44, u45, u46]))] H) (hD : va_D A [(x0, .inr (8, [w0, w1, w2, w3, w4, w5, w6, w7, w8, w9, w10, .int 0, .int 0])), (m0, .inr (9, [.int 0, u1, u2, u3, u4, .int 0, .int 0, .int 0, .int 0, u9, u10, u11, u12, u13, u14, u15, .int 0, u17, u18, u19, u20, u21, u22, u23, u24, u25, u26, u27, u28, u29, u30, u31, u32, u33, u34, u35, u36, u37, u38, u39, u40, u41, u42, u43, u44, u45, u46]))]) (ls : Array Slot) (hl : lv_has ls 4 [(0, .ref b), (1, .ref x0), (2, .ref m0), (3, .int 0)]) : W p l e room_1 s m #[Value.ref b] below meth c H locs 210 203560 (lw_Z below #[Value.ref b] s) (F0 m 1467 ls []) := by
  obtain ⟨hx, hb, hr, hml, hown, hts, hX, hbl, hlocks, hgv⟩ := C0
  have hg : ∀ w ∈ zGW, w.before #[Value.ref b] s = true := fun w h => hts w (List.mem_filter.mp h).1
  have hown : s.vm.findClass RL = some m.cls := hown
  have hbA : ¬ A b := fun h => absurd (hA' b h) (Nat.not_le.mpr hbl)
  refine lv_aload_n hx hb dL_law_1467 rfl (lv_at hl 1 rfl) ?_
  refine lv_aload_n hx hb dL_law_1468 rfl (lv_at hl 0 rfl) ?_
  refine lv_iload_n hx hb dL_law_1469 rfl (lv_at hl 3 rfl) ?_
  refine lv_iconst (v := 1) hx hb dL_law_1470 (by decide) ?_
  refine lv_iadd hx hb dL_law_1471 ?_
  refine lv_topi (fun x1 ex1 => ?_)
  obtain rfl : x1 = 1 := ex1.trans (by decide)
  refine va_sld hx hb hX hbl hbA hS (z_in (by decide : (1 : Int32).toInt = 1) (by omega) (by omega)) dL_law_1472 ?_
  refine W.eq (g2 := F0 m 1473 ls [.int (xs 1), .ref x0]) rfl ?_
  refine lv_aload_n hx hb dL_law_1473 rfl (lv_at hl 0 rfl) ?_
  refine lv_iload_n hx hb dL_law_1474 rfl (lv_at hl 3 rfl) ?_
  refine lv_iconst (v := 2) hx hb dL_law_1475 (by decide) ?_
  refine lv_iadd hx hb dL_law_1476 ?_
  refine lv_topi (fun x2 ex2 => ?_)
  obtain rfl : x2 = 2 := ex2.trans (by decide)
  refine va_sld hx hb hX hbl hbA hS (z_in (by decide : (2 : Int32).toInt = 2) (by omega) (by omega)) dL_law_1477 ?_
  refine W.eq (g2 := F0 m 1478 ls [.int (xs 2), .int (xs 1), .ref x0]) rfl ?_
  refine lv_aload_n hx hb dL_law_1478 rfl (lv_at hl 0 rfl) ?_
  refine lv_iload_n hx hb dL_law_1479 rfl (lv_at hl 3 rfl) ?_
  refine lv_iconst (v := 3) hx hb dL_law_1480 (by decide) ?_
  refine lv_iadd hx hb dL_law_1481 ?_
  refine lv_topi (fun x3 ex3 => ?_)
  obtain rfl : x3 = 3 := ex3.trans (by decide)
  refine va_sld hx hb hX hbl hbA hS (z_in (by decide : (3 : Int32).toInt = 3) (by omega) (by omega)) dL_law_1482 ?_
  refine W.eq (g2 := F0 m 1483 ls [.int (xs 3), .int (xs 2), .int (xs 1), .ref x0]) rfl ?_
  have hPc := hP.sub (ws' := [(x0, .inr (8, [w0, w1, w2, w3, w4, w5, w6, w7, w8, w9, w10, .int 0, .int 0]))]) [0] rfl
  refine zc_i (va_runV (As := [.int (xs 1), .int (xs 2), .int (xs 3)]) (rest := []) ⟨hx, hb, hml, hown, hg⟩ (c_X8_check l g x0 (w0 : Value) (w1 : Value) (w2 : Value) (w3 : Value) (w4 : Value) (w5 : Value) (w6 : Value) (w7 : Value) (w8 : Value) (w9 : Value) (w10 : Value) (xs 1) (xs 2) (xs 3) ) (cwV 3 hg (z_gV mm_934 mm_935 mm_936 mm_108 mm_937) rfl rfl rfl (by decide +kernel) ⟨Nat.le_of_ble_eq_true rfl, Nat.le_of_ble_eq_true rfl⟩) ⟨(zR.pre [.ref x0, .int (xs 1), .int (xs 2), .int (xs 3)] hPc hK hN).1, va_recv hK hPc (ci := 8) (q0 := 0) rfl rfl, (zR.pre [.ref x0, .int (xs 1), .int (xs 2), .int (xs 3)] hPc hK hN).2⟩ rfl rfl hl.1 rfl (lv_room (Nat.le_of_ble_eq_true rfl)) dL_law_1483 ⟨Nat.le_of_ble_eq_true rfl, Nat.le_of_ble_eq_true rfl⟩) (fun r4 hr4 => ?_)
  obtain rfl := hr4
  refine lv_aload_n hx hb dL_law_1486 rfl (lv_at hl 2 rfl) ?_
  refine lv_aload_n hx hb dL_law_1487 rfl (lv_at hl 0 rfl) ?_
  refine lv_iload_n hx hb dL_law_1488 rfl (lv_at hl 3 rfl) ?_
  refine lv_iconst (v := 1) hx hb dL_law_1489 (by decide) ?_
  refine lv_iadd hx hb dL_law_1490 ?_
  refine lv_topi (fun x5 ex5 => ?_)
  obtain rfl : x5 = 1 := ex5.trans (by decide)
  refine va_sld hx hb hX hbl hbA hS (z_in (by decide : (1 : Int32).toInt = 1) (by omega) (by omega)) dL_law_1491 ?_
  refine W.eq (g2 := F0 m 1492 ls [.int (xs 1), .ref m0, .int (-2)]) rfl ?_
  refine lv_aload_n hx hb dL_law_1492 rfl (lv_at hl 0 rfl) ?_
  refine lv_iload_n hx hb dL_law_1493 rfl (lv_at hl 3 rfl) ?_
  refine lv_iconst (v := 2) hx hb dL_law_1494 (by decide) ?_
  refine lv_iadd hx hb dL_law_1495 ?_
  refine lv_topi (fun x6 ex6 => ?_)
  obtain rfl : x6 = 2 := ex6.trans (by decide)
  refine va_sld hx hb hX hbl hbA hS (z_in (by decide : (2 : Int32).toInt = 2) (by omega) (by omega)) dL_law_1496 ?_
  refine W.eq (g2 := F0 m 1497 ls [.int (xs 2), .int (xs 1), .ref m0, .int (-2)]) rfl ?_
  refine lv_aload_n hx hb dL_law_1497 rfl (lv_at hl 0 rfl) ?_
  refine lv_iload_n hx hb dL_law_1498 rfl (lv_at hl 3 rfl) ?_
  refine lv_iconst (v := 3) hx hb dL_law_1499 (by decide) ?_
  refine lv_iadd hx hb dL_law_1500 ?_
  refine lv_topi (fun x7 ex7 => ?_)
  obtain rfl : x7 = 3 := ex7.trans (by decide)
  refine va_sld hx hb hX hbl hbA hS (z_in (by decide : (3 : Int32).toInt = 3) (by omega) (by omega)) dL_law_1501 ?_
  refine W.eq (g2 := F0 m 1502 ls [.int (xs 3), .int (xs 2), .int (xs 1), .ref m0, .int (-2)]) rfl ?_
  have hPc := hP.sub (ws' := [(m0, .inr (9, [.int 0, u1, u2, u3, u4, .int 0, .int 0, .int 0, .int 0, u9, u10, u11, u12, u13, u14, u15, .int 0, u17, u18, u19, u20, u21, u22, u23, u24, u25, u26, u27, u28, u29, u30, u31, u32, u33, u34, u35, u36, u37, u38, u39, u40, u41, u42, u43, u44, u45, u46]))]) [1] rfl
  refine zc_i (va_runV (As := [.int (xs 1), .int (xs 2), .int (xs 3)]) (rest := [.int (-2)]) ⟨hx, hb, hml, hown, hg⟩ (c_X9_check l g m0 (u1 : Value) (u2 : Value) (u3 : Value) (u4 : Value) (u9 : Value) (u10 : Value) (u11 : Value) (u12 : Value) (u13 : Value) (u14 : Value) (u15 : Value) (u17 : Value) (u18 : Value) (u19 : Value) (u20 : Value) (u21 : Value) (u22 : Value) (u23 : Value) (u24 : Value) (u25 : Value) (u26 : Value) (u27 : Value) (u28 : Value) (u29 : Value) (u30 : Value) (u31 : Value) (u32 : Value) (u33 : Value) (u34 : Value) (u35 : Value) (u36 : Value) (u37 : Value) (u38 : Value) (u39 : Value) (u40 : Value) (u41 : Value) (u42 : Value) (u43 : Value) (u44 : Value) (u45 : Value) (u46 : Value) (xs 1) (xs 2) (xs 3) ) (cwV 3 hg (z_gV mm_1476 mm_1477 mm_1478 mm_117 mm_1479) rfl rfl rfl (by decide +kernel) ⟨Nat.le_of_ble_eq_true rfl, Nat.le_of_ble_eq_true rfl⟩) ⟨(zR.pre [.ref m0, .int (xs 1), .int (xs 2), .int (xs 3)] hPc hK hN).1, va_recv hK hPc (ci := 9) (q0 := 0) rfl rfl, (zR.pre [.ref m0, .int (xs 1), .int (xs 2), .int (xs 3)] hPc hK hN).2⟩ rfl rfl hl.1 rfl (lv_room (Nat.le_of_ble_eq_true rfl)) dL_law_1502 ⟨Nat.le_of_ble_eq_true rfl, Nat.le_of_ble_eq_true rfl⟩) (fun r8 hr8 => ?_)
  obtain rfl := hr8
  refine lv_icmp_eq (tgt := 1533) hx hb dL_law_1505 (by decide) (fun c9 => ?_) (fun c9 => ?_)
  · skip
    refine lv_iinc (v := 6) (lv' := [(3, .int 6), (0, .ref b), (1, .ref x0), (2, .ref m0)]) hx hb dL_law_1533 hl (k := 3) rfl (by decide) (by decide) rfl (fun ls hl => ?_)
    refine lv_goto (tgt := 18) hx hb dL_law_1536 (by decide) ?_
    refine lv_iload_n hx hb dL_law_18 rfl (lv_at hl 0 rfl) ?_
    refine lv_aload_n hx hb dL_law_19 rfl (lv_at hl 1 rfl) ?_
    refine va_slen hx hb hX hbl hbA hS dL_law_20 ?_
    refine W.eq (g2 := F0 m 21 ls [.int 6, .int 6]) rfl ?_
    refine lv_bipush (v := 6) hx hb dL_law_21 (by decide) ?_
    refine lv_isub hx hb dL_law_23 ?_
    refine lv_topi (fun x10 ex10 => ?_)
    obtain rfl : x10 = 0 := ex10.trans (by decide)
    refine lv_icmp_gt (tgt := 1539) hx hb dL_law_24 (by decide) (fun c11 => ?_) (fun c11 => ?_)
    · skip
      refine lv_iconst (v := 1) hx hb dL_law_1539 (by decide) ?_
      refine va_forget (fun q hq => hA' _ (hS.2.2 q hq)) ?_
      refine W.widen (k := 600000) (n := 7302250) (Nat.le_of_ble_eq_true rfl) (Nat.le_of_ble_eq_true rfl) ?_
      exact lw_ret hx hb hr hlocks dL_law_1540
    · skip
      exact absurd c11 (by decide)
  · skip
    exact absurd c9 (by decide)

set_option maxHeartbeats 4000000 in
set_option maxRecDepth 100000 in
theorem op_count {p : Program} {e : Env} {s : State} {m : MethodId} {below : List Frame} {meth : Method} {c : Code} (l : Launch) {b : Nat} {xs : Nat → Int32} (C0 : lw_At p s m meth c b 6 xs) (g : zG) (hK : zK g s) (hN : zN s) (x0 : Nat) (aC : Nat) (aW : Value) (aT : Nat) (aB : Value) (aL : Nat) (aG : Nat) (aM : Value) (aA : Value) (aU : Value) (aE : Value) (aD : Value) (c0_ : Nat) (c0_1 : Nat) (c0_2 : Nat) (c0_3 : Nat) (c0_4 : Nat) (f0_1 : Nat → Int32) (f0_2 : Nat → Int32) (f0_3 : Nat → Int32) (f0_4 : Nat → Int32) (we0 : Int32) (se0 : Int32) (c1_ : Nat) (c1_1 : Nat) (c1_2 : Nat) (c1_3 : Nat) (c1_4 : Nat) (f1_1 : Nat → Int32) (f1_2 : Nat → Int32) (f1_3 : Nat → Int32) (f1_4 : Nat → Int32) (we1 : Int32) (se1 : Int32) (c2_ : Nat) (c2_1 : Nat) (c2_2 : Nat) (c2_3 : Nat) (c2_4 : Nat) (f2_1 : Nat → Int32) (f2_2 : Nat → Int32) (f2_3 : Nat → Int32) (f2_4 : Nat → Int32) (we2 : Int32) (se2 : Int32) (c3_ : Nat) (c3_1 : Nat) (c3_2 : Nat) (c3_3 : Nat) (c3_4 : Nat) (f3_1 : Nat → Int32) (f3_2 : Nat → Int32) (f3_3 : Nat → Int32) (f3_4 : Nat → Int32) (we3 : Int32) (se3 : Int32) (aTb : Nat) (ft : Nat → Int32) (l1 : Value) (l2 : Value) (g0_ : Nat) (g0v1 : Value) (g0v2 : Value) (g0v3 : Value) (g0v4 : Value) (g0v5 : Value) (g0v6 : Value) (g0v7 : Value) (g0v8 : Value) (g0v9 : Value) (g0v10 : Value) (g1_ : Nat) (g1v1 : Value) (g1v2 : Value) (g1v3 : Value) (g1v4 : Value) (g1v5 : Value) (g1v6 : Value) (g1v7 : Value) (g1v8 : Value) (g1v9 : Value) (g1v10 : Value) (g2_ : Nat) (g2v1 : Value) (g2v2 : Value) (g2v3 : Value) (g2v4 : Value) (g2v5 : Value) (g2v6 : Value) (g2v7 : Value) (g2v8 : Value) (g2v9 : Value) (g2v10 : Value) (g3_ : Nat) (g3v1 : Value) (g3v2 : Value) (g3v3 : Value) (g3v4 : Value) (g3v5 : Value) (g3v6 : Value) (g3v7 : Value) (g3v8 : Value) (g3v9 : Value) (g3v10 : Value) (g4_ : Nat) (g4v1 : Value) (g4v2 : Value) (g4v3 : Value) (g4v4 : Value) (g4v5 : Value) (g4v6 : Value) (g4v7 : Value) (g4v8 : Value) (g4v9 : Value) (g4v10 : Value) (g5_ : Nat) (g5v1 : Value) (g5v2 : Value) (g5v3 : Value) (g5v4 : Value) (g5v5 : Value) (g5v6 : Value) (g5v7 : Value) (g5v8 : Value) (g5v9 : Value) (g5v10 : Value) (g6_ : Nat) (g6v1 : Value) (g6v2 : Value) (g6v3 : Value) (g6v4 : Value) (g6v5 : Value) (g6v6 : Value) (g6v7 : Value) (g6v8 : Value) (g6v9 : Value) (g6v10 : Value) (g7_ : Nat) (g7v1 : Value) (g7v2 : Value) (g7v3 : Value) (g7v4 : Value) (g7v5 : Value) (g7v6 : Value) (g7v7 : Value) (g7v8 : Value) (g7v9 : Value) (g7v10 : Value) (m0 : Nat) (u1 : Value) (bmw : Nat) (mw : Nat → Int32) (u3 : Value) (u4 : Value) (u9 : Value) (u10 : Value) (u11 : Value) (u12 : Value) (u13 : Value) (u14 : Value) (u15 : Value) (u17 : Value) (u18 : Value) (u19 : Value) (u20 : Value) (u21 : Value) (u22 : Value) (u23 : Value) (u24 : Value) (u25 : Value) (u26 : Value) (u27 : Value) (u28 : Value) (u29 : Value) (u30 : Value) (u31 : Value) (u32 : Value) (u33 : Value) (u34 : Value) (u35 : Value) (u36 : Value) (u37 : Value) (u38 : Value) (u39 : Value) (u40 : Value) (u41 : Value) (u42 : Value) (u43 : Value) (u44 : Value) (u45 : Value) (u46 : Value) (x0_hwe0 : we0 = 1) (x0_hwe1 : we1 = 1) (x0_hwe2 : we2 = 1) (x0_hwe3 : we3 = 1) (m0_hw1 : ∀ j, j < 4 → mw j = 1) {A : Nat → Prop} (hA : ∀ q, s.heap.size ≤ q → A q) (hA' : ∀ q, A q → s.heap.size ≤ q) (H : Heap) (locs : List Loc) (hS : va_S A s.heap H locs) (hP : zP g [(x0, .inr (8, [.ref aC, aW, .ref aT, aB, .ref aL, .ref aG, aM, aA, aU, aE, aD, .int 0, .int 0])), (aC, .inl (g.2 4, 4, .inr (.inr (.inr (.inr (zS [some c0_, some c1_, some c2_, some c3_])))))), (c0_, .inr (3, [.int we0, .ref c0_1, .ref c0_2, .ref c0_3, .ref c0_4, .int se0])), (c0_1, .inl (g.2 0, 32, .inl f0_1)), (c0_2, .inl (g.2 0, 33, .inl f0_2)), (c0_3, .inl (g.2 0, 33, .inl f0_3)), (c0_4, .inl (g.2 0, 16, .inl f0_4)), (c1_, .inr (3, [.int we1, .ref c1_1, .ref c1_2, .ref c1_3, .ref c1_4, .int se1])), (c1_1, .inl (g.2 0, 32, .inl f1_1)), (c1_2, .inl (g.2 0, 33, .inl f1_2)), (c1_3, .inl (g.2 0, 33, .inl f1_3)), (c1_4, .inl (g.2 0, 16, .inl f1_4)), (c2_, .inr (3, [.int we2, .ref c2_1, .ref c2_2, .ref c2_3, .ref c2_4, .int se2])), (c2_1, .inl (g.2 0, 32, .inl f2_1)), (c2_2, .inl (g.2 0, 33, .inl f2_2)), (c2_3, .inl (g.2 0, 33, .inl f2_3)), (c2_4, .inl (g.2 0, 16, .inl f2_4)), (c3_, .inr (3, [.int we3, .ref c3_1, .ref c3_2, .ref c3_3, .ref c3_4, .int se3])), (c3_1, .inl (g.2 0, 32, .inl f3_1)), (c3_2, .inl (g.2 0, 33, .inl f3_2)), (c3_3, .inl (g.2 0, 33, .inl f3_3)), (c3_4, .inl (g.2 0, 16, .inl f3_4)), (aT, .inr (7, [.int 0, .ref aTb])), (aTb, .inl (g.2 0, 200, .inl ft)), (aL, .inr (5, [.int 0, l1, l2])), (aG, .inl (g.2 6, 8, .inr (.inr (.inr (.inr (zS [some g0_, some g1_, some g2_, some g3_, some g4_, some g5_, some g6_, some g7_])))))), (g0_, .inr (4, [.int 0, g0v1, g0v2, g0v3, g0v4, g0v5, g0v6, g0v7, g0v8, g0v9, g0v10])), (g1_, .inr (4, [.int 0, g1v1, g1v2, g1v3, g1v4, g1v5, g1v6, g1v7, g1v8, g1v9, g1v10])), (g2_, .inr (4, [.int 0, g2v1, g2v2, g2v3, g2v4, g2v5, g2v6, g2v7, g2v8, g2v9, g2v10])), (g3_, .inr (4, [.int 0, g3v1, g3v2, g3v3, g3v4, g3v5, g3v6, g3v7, g3v8, g3v9, g3v10])), (g4_, .inr (4, [.int 0, g4v1, g4v2, g4v3, g4v4, g4v5, g4v6, g4v7, g4v8, g4v9, g4v10])), (g5_, .inr (4, [.int 0, g5v1, g5v2, g5v3, g5v4, g5v5, g5v6, g5v7, g5v8, g5v9, g5v10])), (g6_, .inr (4, [.int 0, g6v1, g6v2, g6v3, g6v4, g6v5, g6v6, g6v7, g6v8, g6v9, g6v10])), (g7_, .inr (4, [.int 0, g7v1, g7v2, g7v3, g7v4, g7v5, g7v6, g7v7, g7v8, g7v9, g7v10])), (m0, .inr (9, [.int 0, u1, .ref bmw, u3, u4, .int 0, .int 0, .int 0, .int 0, u9, u10, u11, u12, u13, u14, u15, .int 0, u17, u18, u19, u20, u21, u22, u23, u24, u25, u26, u27, u28, u29, u30, u31, u32, u33, u34, u35, u36, u37, u38, u39, u40, u41, u42, u43, u44, u45, u46])), (bmw, .inl (g.2 0, 4, .inl mw))] H) (hD : va_D A [(x0, .inr (8, [.ref aC, aW, .ref aT, aB, .ref aL, .ref aG, aM, aA, aU, aE, aD, .int 0, .int 0])), (aC, .inl (g.2 4, 4, .inr (.inr (.inr (.inr (zS [some c0_, some c1_, some c2_, some c3_])))))), (c0_, .inr (3, [.int we0, .ref c0_1, .ref c0_2, .ref c0_3, .ref c0_4, .int se0])), (c0_1, .inl (g.2 0, 32, .inl f0_1)), (c0_2, .inl (g.2 0, 33, .inl f0_2)), (c0_3, .inl (g.2 0, 33, .inl f0_3)), (c0_4, .inl (g.2 0, 16, .inl f0_4)), (c1_, .inr (3, [.int we1, .ref c1_1, .ref c1_2, .ref c1_3, .ref c1_4, .int se1])), (c1_1, .inl (g.2 0, 32, .inl f1_1)), (c1_2, .inl (g.2 0, 33, .inl f1_2)), (c1_3, .inl (g.2 0, 33, .inl f1_3)), (c1_4, .inl (g.2 0, 16, .inl f1_4)), (c2_, .inr (3, [.int we2, .ref c2_1, .ref c2_2, .ref c2_3, .ref c2_4, .int se2])), (c2_1, .inl (g.2 0, 32, .inl f2_1)), (c2_2, .inl (g.2 0, 33, .inl f2_2)), (c2_3, .inl (g.2 0, 33, .inl f2_3)), (c2_4, .inl (g.2 0, 16, .inl f2_4)), (c3_, .inr (3, [.int we3, .ref c3_1, .ref c3_2, .ref c3_3, .ref c3_4, .int se3])), (c3_1, .inl (g.2 0, 32, .inl f3_1)), (c3_2, .inl (g.2 0, 33, .inl f3_2)), (c3_3, .inl (g.2 0, 33, .inl f3_3)), (c3_4, .inl (g.2 0, 16, .inl f3_4)), (aT, .inr (7, [.int 0, .ref aTb])), (aTb, .inl (g.2 0, 200, .inl ft)), (aL, .inr (5, [.int 0, l1, l2])), (aG, .inl (g.2 6, 8, .inr (.inr (.inr (.inr (zS [some g0_, some g1_, some g2_, some g3_, some g4_, some g5_, some g6_, some g7_])))))), (g0_, .inr (4, [.int 0, g0v1, g0v2, g0v3, g0v4, g0v5, g0v6, g0v7, g0v8, g0v9, g0v10])), (g1_, .inr (4, [.int 0, g1v1, g1v2, g1v3, g1v4, g1v5, g1v6, g1v7, g1v8, g1v9, g1v10])), (g2_, .inr (4, [.int 0, g2v1, g2v2, g2v3, g2v4, g2v5, g2v6, g2v7, g2v8, g2v9, g2v10])), (g3_, .inr (4, [.int 0, g3v1, g3v2, g3v3, g3v4, g3v5, g3v6, g3v7, g3v8, g3v9, g3v10])), (g4_, .inr (4, [.int 0, g4v1, g4v2, g4v3, g4v4, g4v5, g4v6, g4v7, g4v8, g4v9, g4v10])), (g5_, .inr (4, [.int 0, g5v1, g5v2, g5v3, g5v4, g5v5, g5v6, g5v7, g5v8, g5v9, g5v10])), (g6_, .inr (4, [.int 0, g6v1, g6v2, g6v3, g6v4, g6v5, g6v6, g6v7, g6v8, g6v9, g6v10])), (g7_, .inr (4, [.int 0, g7v1, g7v2, g7v3, g7v4, g7v5, g7v6, g7v7, g7v8, g7v9, g7v10])), (m0, .inr (9, [.int 0, u1, .ref bmw, u3, u4, .int 0, .int 0, .int 0, .int 0, u9, u10, u11, u12, u13, u14, u15, .int 0, u17, u18, u19, u20, u21, u22, u23, u24, u25, u26, u27, u28, u29, u30, u31, u32, u33, u34, u35, u36, u37, u38, u39, u40, u41, u42, u43, u44, u45, u46])), (bmw, .inl (g.2 0, 4, .inl mw))]) (ls : Array Slot) (hl : lv_has ls 4 [(0, .ref b), (1, .ref x0), (2, .ref m0), (3, .int 0)]) : W p l e room_1 s m #[Value.ref b] below meth c H locs 210 203560 (lw_Z below #[Value.ref b] s) (F0 m 1510 ls []) := by
  obtain ⟨hx, hb, hr, hml, hown, hts, hX, hbl, hlocks, hgv⟩ := C0
  have hg : ∀ w ∈ zGW, w.before #[Value.ref b] s = true := fun w h => hts w (List.mem_filter.mp h).1
  have hown : s.vm.findClass RL = some m.cls := hown
  have hbA : ¬ A b := fun h => absurd (hA' b h) (Nat.not_le.mpr hbl)
  refine lv_aload_n hx hb dL_law_1510 rfl (lv_at hl 1 rfl) ?_
  refine lv_aload_n hx hb dL_law_1511 rfl (lv_at hl 0 rfl) ?_
  refine lv_iload_n hx hb dL_law_1512 rfl (lv_at hl 3 rfl) ?_
  refine lv_iconst (v := 1) hx hb dL_law_1513 (by decide) ?_
  refine lv_iadd hx hb dL_law_1514 ?_
  refine lv_topi (fun x1 ex1 => ?_)
  obtain rfl : x1 = 1 := ex1.trans (by decide)
  refine va_sld hx hb hX hbl hbA hS (z_in (by decide : (1 : Int32).toInt = 1) (by omega) (by omega)) dL_law_1515 ?_
  refine W.eq (g2 := F0 m 1516 ls [.int (xs 1), .ref x0]) rfl ?_
  have hPc := hP.sub (ws' := [(x0, .inr (8, [.ref aC, aW, .ref aT, aB, .ref aL, .ref aG, aM, aA, aU, aE, aD, .int 0, .int 0])), (aC, .inl (g.2 4, 4, .inr (.inr (.inr (.inr (zS [some c0_, some c1_, some c2_, some c3_])))))), (c0_, .inr (3, [.int we0, .ref c0_1, .ref c0_2, .ref c0_3, .ref c0_4, .int se0])), (c0_1, .inl (g.2 0, 32, .inl f0_1)), (c0_2, .inl (g.2 0, 33, .inl f0_2)), (c0_3, .inl (g.2 0, 33, .inl f0_3)), (c0_4, .inl (g.2 0, 16, .inl f0_4)), (c1_, .inr (3, [.int we1, .ref c1_1, .ref c1_2, .ref c1_3, .ref c1_4, .int se1])), (c1_1, .inl (g.2 0, 32, .inl f1_1)), (c1_2, .inl (g.2 0, 33, .inl f1_2)), (c1_3, .inl (g.2 0, 33, .inl f1_3)), (c1_4, .inl (g.2 0, 16, .inl f1_4)), (c2_, .inr (3, [.int we2, .ref c2_1, .ref c2_2, .ref c2_3, .ref c2_4, .int se2])), (c2_1, .inl (g.2 0, 32, .inl f2_1)), (c2_2, .inl (g.2 0, 33, .inl f2_2)), (c2_3, .inl (g.2 0, 33, .inl f2_3)), (c2_4, .inl (g.2 0, 16, .inl f2_4)), (c3_, .inr (3, [.int we3, .ref c3_1, .ref c3_2, .ref c3_3, .ref c3_4, .int se3])), (c3_1, .inl (g.2 0, 32, .inl f3_1)), (c3_2, .inl (g.2 0, 33, .inl f3_2)), (c3_3, .inl (g.2 0, 33, .inl f3_3)), (c3_4, .inl (g.2 0, 16, .inl f3_4)), (aT, .inr (7, [.int 0, .ref aTb])), (aTb, .inl (g.2 0, 200, .inl ft)), (aL, .inr (5, [.int 0, l1, l2])), (aG, .inl (g.2 6, 8, .inr (.inr (.inr (.inr (zS [some g0_, some g1_, some g2_, some g3_, some g4_, some g5_, some g6_, some g7_])))))), (g0_, .inr (4, [.int 0, g0v1, g0v2, g0v3, g0v4, g0v5, g0v6, g0v7, g0v8, g0v9, g0v10])), (g1_, .inr (4, [.int 0, g1v1, g1v2, g1v3, g1v4, g1v5, g1v6, g1v7, g1v8, g1v9, g1v10])), (g2_, .inr (4, [.int 0, g2v1, g2v2, g2v3, g2v4, g2v5, g2v6, g2v7, g2v8, g2v9, g2v10])), (g3_, .inr (4, [.int 0, g3v1, g3v2, g3v3, g3v4, g3v5, g3v6, g3v7, g3v8, g3v9, g3v10])), (g4_, .inr (4, [.int 0, g4v1, g4v2, g4v3, g4v4, g4v5, g4v6, g4v7, g4v8, g4v9, g4v10])), (g5_, .inr (4, [.int 0, g5v1, g5v2, g5v3, g5v4, g5v5, g5v6, g5v7, g5v8, g5v9, g5v10])), (g6_, .inr (4, [.int 0, g6v1, g6v2, g6v3, g6v4, g6v5, g6v6, g6v7, g6v8, g6v9, g6v10])), (g7_, .inr (4, [.int 0, g7v1, g7v2, g7v3, g7v4, g7v5, g7v6, g7v7, g7v8, g7v9, g7v10]))]) [0, 1, 2, 3, 4, 5, 6, 7, 8, 9, 10, 11, 12, 13, 14, 15, 16, 17, 18, 19, 20, 21, 22, 23, 24, 25, 26, 27, 28, 29, 30, 31, 32, 33] rfl
  refine zc_i (va_runV (As := [.int (xs 1)]) (rest := []) ⟨hx, hb, hml, hown, hg⟩ (c_X8_count l g x0 aC (aW : Value) aT (aB : Value) aL aG (aM : Value) (aA : Value) (aU : Value) (aE : Value) (aD : Value) c0_ c0_1 c0_2 c0_3 c0_4 f0_1 f0_2 f0_3 f0_4 we0 se0 c1_ c1_1 c1_2 c1_3 c1_4 f1_1 f1_2 f1_3 f1_4 we1 se1 c2_ c2_1 c2_2 c2_3 c2_4 f2_1 f2_2 f2_3 f2_4 we2 se2 c3_ c3_1 c3_2 c3_3 c3_4 f3_1 f3_2 f3_3 f3_4 we3 se3 aTb ft (l1 : Value) (l2 : Value) g0_ (g0v1 : Value) (g0v2 : Value) (g0v3 : Value) (g0v4 : Value) (g0v5 : Value) (g0v6 : Value) (g0v7 : Value) (g0v8 : Value) (g0v9 : Value) (g0v10 : Value) g1_ (g1v1 : Value) (g1v2 : Value) (g1v3 : Value) (g1v4 : Value) (g1v5 : Value) (g1v6 : Value) (g1v7 : Value) (g1v8 : Value) (g1v9 : Value) (g1v10 : Value) g2_ (g2v1 : Value) (g2v2 : Value) (g2v3 : Value) (g2v4 : Value) (g2v5 : Value) (g2v6 : Value) (g2v7 : Value) (g2v8 : Value) (g2v9 : Value) (g2v10 : Value) g3_ (g3v1 : Value) (g3v2 : Value) (g3v3 : Value) (g3v4 : Value) (g3v5 : Value) (g3v6 : Value) (g3v7 : Value) (g3v8 : Value) (g3v9 : Value) (g3v10 : Value) g4_ (g4v1 : Value) (g4v2 : Value) (g4v3 : Value) (g4v4 : Value) (g4v5 : Value) (g4v6 : Value) (g4v7 : Value) (g4v8 : Value) (g4v9 : Value) (g4v10 : Value) g5_ (g5v1 : Value) (g5v2 : Value) (g5v3 : Value) (g5v4 : Value) (g5v5 : Value) (g5v6 : Value) (g5v7 : Value) (g5v8 : Value) (g5v9 : Value) (g5v10 : Value) g6_ (g6v1 : Value) (g6v2 : Value) (g6v3 : Value) (g6v4 : Value) (g6v5 : Value) (g6v6 : Value) (g6v7 : Value) (g6v8 : Value) (g6v9 : Value) (g6v10 : Value) g7_ (g7v1 : Value) (g7v2 : Value) (g7v3 : Value) (g7v4 : Value) (g7v5 : Value) (g7v6 : Value) (g7v7 : Value) (g7v8 : Value) (g7v9 : Value) (g7v10 : Value) (xs 1) (by first | omega | assumption | decide | (rw [nI_toInt] <;> omega)) (by first | omega | assumption | decide | (rw [nI_toInt] <;> omega)) (by first | omega | assumption | decide | (rw [nI_toInt] <;> omega)) (by first | omega | assumption | decide | (rw [nI_toInt] <;> omega))) (cwV 1 hg (z_gV mm_943 mm_944 mm_945 mm_108 mm_946) rfl rfl rfl (by decide +kernel) ⟨Nat.le_of_ble_eq_true rfl, Nat.le_of_ble_eq_true rfl⟩) ⟨(zR.pre [.ref x0, .int (xs 1)] hPc hK hN).1, va_recv hK hPc (ci := 8) (q0 := 0) rfl rfl, (zR.pre [.ref x0, .int (xs 1)] hPc hK hN).2⟩ rfl rfl hl.1 rfl (lv_room (Nat.le_of_ble_eq_true rfl)) dL_law_1516 ⟨Nat.le_of_ble_eq_true rfl, Nat.le_of_ble_eq_true rfl⟩) (fun r2 hr2 => ?_)
  rcases hr2 with hr2 | hr2 | hr2
  · skip
    obtain ⟨rfl, h3⟩ := hr2
    have h3 : (0 ≤ (xs 1).toInt ∧ (xs 1).toInt ≤ 5) := h3
    refine lv_aload_n hx hb dL_law_1519 rfl (lv_at hl 2 rfl) ?_
    refine lv_aload_n hx hb dL_law_1520 rfl (lv_at hl 0 rfl) ?_
    refine lv_iload_n hx hb dL_law_1521 rfl (lv_at hl 3 rfl) ?_
    refine lv_iconst (v := 1) hx hb dL_law_1522 (by decide) ?_
    refine lv_iadd hx hb dL_law_1523 ?_
    refine lv_topi (fun x4 ex4 => ?_)
    obtain rfl : x4 = 1 := ex4.trans (by decide)
    refine va_sld hx hb hX hbl hbA hS (z_in (by decide : (1 : Int32).toInt = 1) (by omega) (by omega)) dL_law_1524 ?_
    refine W.eq (g2 := F0 m 1525 ls [.int (xs 1), .ref m0, .int 0]) rfl ?_
    have hPc := hP.sub (ws' := [(m0, .inr (9, [.int 0, u1, .ref bmw, u3, u4, .int 0, .int 0, .int 0, .int 0, u9, u10, u11, u12, u13, u14, u15, .int 0, u17, u18, u19, u20, u21, u22, u23, u24, u25, u26, u27, u28, u29, u30, u31, u32, u33, u34, u35, u36, u37, u38, u39, u40, u41, u42, u43, u44, u45, u46])), (bmw, .inl (g.2 0, 4, .inl mw))]) [34, 35] rfl
    refine zc_i (va_runV (As := [.int (xs 1)]) (rest := [.int 0]) ⟨hx, hb, hml, hown, hg⟩ (c_X9_count l g m0 (u1 : Value) bmw mw (u3 : Value) (u4 : Value) (u9 : Value) (u10 : Value) (u11 : Value) (u12 : Value) (u13 : Value) (u14 : Value) (u15 : Value) (u17 : Value) (u18 : Value) (u19 : Value) (u20 : Value) (u21 : Value) (u22 : Value) (u23 : Value) (u24 : Value) (u25 : Value) (u26 : Value) (u27 : Value) (u28 : Value) (u29 : Value) (u30 : Value) (u31 : Value) (u32 : Value) (u33 : Value) (u34 : Value) (u35 : Value) (u36 : Value) (u37 : Value) (u38 : Value) (u39 : Value) (u40 : Value) (u41 : Value) (u42 : Value) (u43 : Value) (u44 : Value) (u45 : Value) (u46 : Value) (xs 1) (by first | omega | assumption | decide | (rw [nI_toInt] <;> omega))) (cwV 1 hg (z_gV mm_1484 mm_1485 mm_1486 mm_117 mm_1487) rfl rfl rfl (by decide +kernel) ⟨Nat.le_of_ble_eq_true rfl, Nat.le_of_ble_eq_true rfl⟩) ⟨(zR.pre [.ref m0, .int (xs 1)] hPc hK hN).1, va_recv hK hPc (ci := 9) (q0 := 0) rfl rfl, (zR.pre [.ref m0, .int (xs 1)] hPc hK hN).2⟩ rfl rfl hl.1 rfl (lv_room (Nat.le_of_ble_eq_true rfl)) dL_law_1525 ⟨Nat.le_of_ble_eq_true rfl, Nat.le_of_ble_eq_true rfl⟩) (fun r5 hr5 => ?_)
    rcases hr5 with hr5 | hr5 | hr5
    · skip
      obtain ⟨rfl, h6⟩ := hr5
      have h6 : (0 ≤ (xs 1).toInt ∧ (xs 1).toInt ≤ 5) := h6
      refine lv_icmp_eq (tgt := 1533) hx hb dL_law_1528 (by decide) (fun c7 => ?_) (fun c7 => ?_)
      · skip
        refine lv_iinc (v := 6) (lv' := [(3, .int 6), (0, .ref b), (1, .ref x0), (2, .ref m0)]) hx hb dL_law_1533 hl (k := 3) rfl (by decide) (by decide) rfl (fun ls hl => ?_)
        refine lv_goto (tgt := 18) hx hb dL_law_1536 (by decide) ?_
        refine lv_iload_n hx hb dL_law_18 rfl (lv_at hl 0 rfl) ?_
        refine lv_aload_n hx hb dL_law_19 rfl (lv_at hl 1 rfl) ?_
        refine va_slen hx hb hX hbl hbA hS dL_law_20 ?_
        refine W.eq (g2 := F0 m 21 ls [.int 6, .int 6]) rfl ?_
        refine lv_bipush (v := 6) hx hb dL_law_21 (by decide) ?_
        refine lv_isub hx hb dL_law_23 ?_
        refine lv_topi (fun x8 ex8 => ?_)
        obtain rfl : x8 = 0 := ex8.trans (by decide)
        refine lv_icmp_gt (tgt := 1539) hx hb dL_law_24 (by decide) (fun c9 => ?_) (fun c9 => ?_)
        · skip
          refine lv_iconst (v := 1) hx hb dL_law_1539 (by decide) ?_
          refine va_forget (fun q hq => hA' _ (hS.2.2 q hq)) ?_
          refine W.widen (k := 600000) (n := 7302250) (Nat.le_of_ble_eq_true rfl) (Nat.le_of_ble_eq_true rfl) ?_
          exact lw_ret hx hb hr hlocks dL_law_1540
        · skip
          exact absurd c9 (by decide)
      · skip
        exact absurd c7 (by decide)
    · skip
      obtain ⟨rfl, h10⟩ := hr5
      have h10 : (20 ≤ (xs 1).toInt ∧ (xs 1).toInt ≤ 23) := h10
      exfalso
      omega
    · skip
      obtain ⟨rfl, h11, h12⟩ := hr5
      have h11 : ¬ (0 ≤ (xs 1).toInt ∧ (xs 1).toInt ≤ 5) := h11
      have h12 : ¬ (20 ≤ (xs 1).toInt ∧ (xs 1).toInt ≤ 23) := h12
      exfalso
      omega
  · skip
    obtain ⟨rfl, h13⟩ := hr2
    have h13 : (20 ≤ (xs 1).toInt ∧ (xs 1).toInt ≤ 23) := h13
    refine lv_aload_n hx hb dL_law_1519 rfl (lv_at hl 2 rfl) ?_
    refine lv_aload_n hx hb dL_law_1520 rfl (lv_at hl 0 rfl) ?_
    refine lv_iload_n hx hb dL_law_1521 rfl (lv_at hl 3 rfl) ?_
    refine lv_iconst (v := 1) hx hb dL_law_1522 (by decide) ?_
    refine lv_iadd hx hb dL_law_1523 ?_
    refine lv_topi (fun x14 ex14 => ?_)
    obtain rfl : x14 = 1 := ex14.trans (by decide)
    refine va_sld hx hb hX hbl hbA hS (z_in (by decide : (1 : Int32).toInt = 1) (by omega) (by omega)) dL_law_1524 ?_
    refine W.eq (g2 := F0 m 1525 ls [.int (xs 1), .ref m0, .int 1]) rfl ?_
    have hPc := hP.sub (ws' := [(m0, .inr (9, [.int 0, u1, .ref bmw, u3, u4, .int 0, .int 0, .int 0, .int 0, u9, u10, u11, u12, u13, u14, u15, .int 0, u17, u18, u19, u20, u21, u22, u23, u24, u25, u26, u27, u28, u29, u30, u31, u32, u33, u34, u35, u36, u37, u38, u39, u40, u41, u42, u43, u44, u45, u46])), (bmw, .inl (g.2 0, 4, .inl mw))]) [34, 35] rfl
    refine zc_i (va_runV (As := [.int (xs 1)]) (rest := [.int 1]) ⟨hx, hb, hml, hown, hg⟩ (c_X9_count l g m0 (u1 : Value) bmw mw (u3 : Value) (u4 : Value) (u9 : Value) (u10 : Value) (u11 : Value) (u12 : Value) (u13 : Value) (u14 : Value) (u15 : Value) (u17 : Value) (u18 : Value) (u19 : Value) (u20 : Value) (u21 : Value) (u22 : Value) (u23 : Value) (u24 : Value) (u25 : Value) (u26 : Value) (u27 : Value) (u28 : Value) (u29 : Value) (u30 : Value) (u31 : Value) (u32 : Value) (u33 : Value) (u34 : Value) (u35 : Value) (u36 : Value) (u37 : Value) (u38 : Value) (u39 : Value) (u40 : Value) (u41 : Value) (u42 : Value) (u43 : Value) (u44 : Value) (u45 : Value) (u46 : Value) (xs 1) (by first | omega | assumption | decide | (rw [nI_toInt] <;> omega))) (cwV 1 hg (z_gV mm_1484 mm_1485 mm_1486 mm_117 mm_1487) rfl rfl rfl (by decide +kernel) ⟨Nat.le_of_ble_eq_true rfl, Nat.le_of_ble_eq_true rfl⟩) ⟨(zR.pre [.ref m0, .int (xs 1)] hPc hK hN).1, va_recv hK hPc (ci := 9) (q0 := 0) rfl rfl, (zR.pre [.ref m0, .int (xs 1)] hPc hK hN).2⟩ rfl rfl hl.1 rfl (lv_room (Nat.le_of_ble_eq_true rfl)) dL_law_1525 ⟨Nat.le_of_ble_eq_true rfl, Nat.le_of_ble_eq_true rfl⟩) (fun r15 hr15 => ?_)
    rcases hr15 with hr15 | hr15 | hr15
    · skip
      obtain ⟨rfl, h16⟩ := hr15
      have h16 : (0 ≤ (xs 1).toInt ∧ (xs 1).toInt ≤ 5) := h16
      exfalso
      omega
    · skip
      obtain ⟨rfl, h17⟩ := hr15
      have h17 : (20 ≤ (xs 1).toInt ∧ (xs 1).toInt ≤ 23) := h17
      refine lv_icmp_eq (tgt := 1533) hx hb dL_law_1528 (by decide) (fun c18 => ?_) (fun c18 => ?_)
      · skip
        refine lv_iinc (v := 6) (lv' := [(3, .int 6), (0, .ref b), (1, .ref x0), (2, .ref m0)]) hx hb dL_law_1533 hl (k := 3) rfl (by decide) (by decide) rfl (fun ls hl => ?_)
        refine lv_goto (tgt := 18) hx hb dL_law_1536 (by decide) ?_
        refine lv_iload_n hx hb dL_law_18 rfl (lv_at hl 0 rfl) ?_
        refine lv_aload_n hx hb dL_law_19 rfl (lv_at hl 1 rfl) ?_
        refine va_slen hx hb hX hbl hbA hS dL_law_20 ?_
        refine W.eq (g2 := F0 m 21 ls [.int 6, .int 6]) rfl ?_
        refine lv_bipush (v := 6) hx hb dL_law_21 (by decide) ?_
        refine lv_isub hx hb dL_law_23 ?_
        refine lv_topi (fun x19 ex19 => ?_)
        obtain rfl : x19 = 0 := ex19.trans (by decide)
        refine lv_icmp_gt (tgt := 1539) hx hb dL_law_24 (by decide) (fun c20 => ?_) (fun c20 => ?_)
        · skip
          refine lv_iconst (v := 1) hx hb dL_law_1539 (by decide) ?_
          refine va_forget (fun q hq => hA' _ (hS.2.2 q hq)) ?_
          refine W.widen (k := 600000) (n := 7302250) (Nat.le_of_ble_eq_true rfl) (Nat.le_of_ble_eq_true rfl) ?_
          exact lw_ret hx hb hr hlocks dL_law_1540
        · skip
          exact absurd c20 (by decide)
      · skip
        exact absurd c18 (by decide)
    · skip
      obtain ⟨rfl, h21, h22⟩ := hr15
      have h21 : ¬ (0 ≤ (xs 1).toInt ∧ (xs 1).toInt ≤ 5) := h21
      have h22 : ¬ (20 ≤ (xs 1).toInt ∧ (xs 1).toInt ≤ 23) := h22
      exfalso
      omega
  · skip
    obtain ⟨rfl, h23, h24⟩ := hr2
    have h23 : ¬ (0 ≤ (xs 1).toInt ∧ (xs 1).toInt ≤ 5) := h23
    have h24 : ¬ (20 ≤ (xs 1).toInt ∧ (xs 1).toInt ≤ 23) := h24
    refine lv_aload_n hx hb dL_law_1519 rfl (lv_at hl 2 rfl) ?_
    refine lv_aload_n hx hb dL_law_1520 rfl (lv_at hl 0 rfl) ?_
    refine lv_iload_n hx hb dL_law_1521 rfl (lv_at hl 3 rfl) ?_
    refine lv_iconst (v := 1) hx hb dL_law_1522 (by decide) ?_
    refine lv_iadd hx hb dL_law_1523 ?_
    refine lv_topi (fun x25 ex25 => ?_)
    obtain rfl : x25 = 1 := ex25.trans (by decide)
    refine va_sld hx hb hX hbl hbA hS (z_in (by decide : (1 : Int32).toInt = 1) (by omega) (by omega)) dL_law_1524 ?_
    refine W.eq (g2 := F0 m 1525 ls [.int (xs 1), .ref m0, .int (-1)]) rfl ?_
    have hPc := hP.sub (ws' := [(m0, .inr (9, [.int 0, u1, .ref bmw, u3, u4, .int 0, .int 0, .int 0, .int 0, u9, u10, u11, u12, u13, u14, u15, .int 0, u17, u18, u19, u20, u21, u22, u23, u24, u25, u26, u27, u28, u29, u30, u31, u32, u33, u34, u35, u36, u37, u38, u39, u40, u41, u42, u43, u44, u45, u46])), (bmw, .inl (g.2 0, 4, .inl mw))]) [34, 35] rfl
    refine zc_i (va_runV (As := [.int (xs 1)]) (rest := [.int (-1)]) ⟨hx, hb, hml, hown, hg⟩ (c_X9_count l g m0 (u1 : Value) bmw mw (u3 : Value) (u4 : Value) (u9 : Value) (u10 : Value) (u11 : Value) (u12 : Value) (u13 : Value) (u14 : Value) (u15 : Value) (u17 : Value) (u18 : Value) (u19 : Value) (u20 : Value) (u21 : Value) (u22 : Value) (u23 : Value) (u24 : Value) (u25 : Value) (u26 : Value) (u27 : Value) (u28 : Value) (u29 : Value) (u30 : Value) (u31 : Value) (u32 : Value) (u33 : Value) (u34 : Value) (u35 : Value) (u36 : Value) (u37 : Value) (u38 : Value) (u39 : Value) (u40 : Value) (u41 : Value) (u42 : Value) (u43 : Value) (u44 : Value) (u45 : Value) (u46 : Value) (xs 1) (by first | omega | assumption | decide | (rw [nI_toInt] <;> omega))) (cwV 1 hg (z_gV mm_1484 mm_1485 mm_1486 mm_117 mm_1487) rfl rfl rfl (by decide +kernel) ⟨Nat.le_of_ble_eq_true rfl, Nat.le_of_ble_eq_true rfl⟩) ⟨(zR.pre [.ref m0, .int (xs 1)] hPc hK hN).1, va_recv hK hPc (ci := 9) (q0 := 0) rfl rfl, (zR.pre [.ref m0, .int (xs 1)] hPc hK hN).2⟩ rfl rfl hl.1 rfl (lv_room (Nat.le_of_ble_eq_true rfl)) dL_law_1525 ⟨Nat.le_of_ble_eq_true rfl, Nat.le_of_ble_eq_true rfl⟩) (fun r26 hr26 => ?_)
    rcases hr26 with hr26 | hr26 | hr26
    · skip
      obtain ⟨rfl, h27⟩ := hr26
      have h27 : (0 ≤ (xs 1).toInt ∧ (xs 1).toInt ≤ 5) := h27
      exfalso
      omega
    · skip
      obtain ⟨rfl, h28⟩ := hr26
      have h28 : (20 ≤ (xs 1).toInt ∧ (xs 1).toInt ≤ 23) := h28
      exfalso
      omega
    · skip
      obtain ⟨rfl, h29, h30⟩ := hr26
      have h29 : ¬ (0 ≤ (xs 1).toInt ∧ (xs 1).toInt ≤ 5) := h29
      have h30 : ¬ (20 ≤ (xs 1).toInt ∧ (xs 1).toInt ≤ 23) := h30
      refine lv_icmp_eq (tgt := 1533) hx hb dL_law_1528 (by decide) (fun c31 => ?_) (fun c31 => ?_)
      · skip
        refine lv_iinc (v := 6) (lv' := [(3, .int 6), (0, .ref b), (1, .ref x0), (2, .ref m0)]) hx hb dL_law_1533 hl (k := 3) rfl (by decide) (by decide) rfl (fun ls hl => ?_)
        refine lv_goto (tgt := 18) hx hb dL_law_1536 (by decide) ?_
        refine lv_iload_n hx hb dL_law_18 rfl (lv_at hl 0 rfl) ?_
        refine lv_aload_n hx hb dL_law_19 rfl (lv_at hl 1 rfl) ?_
        refine va_slen hx hb hX hbl hbA hS dL_law_20 ?_
        refine W.eq (g2 := F0 m 21 ls [.int 6, .int 6]) rfl ?_
        refine lv_bipush (v := 6) hx hb dL_law_21 (by decide) ?_
        refine lv_isub hx hb dL_law_23 ?_
        refine lv_topi (fun x32 ex32 => ?_)
        obtain rfl : x32 = 0 := ex32.trans (by decide)
        refine lv_icmp_gt (tgt := 1539) hx hb dL_law_24 (by decide) (fun c33 => ?_) (fun c33 => ?_)
        · skip
          refine lv_iconst (v := 1) hx hb dL_law_1539 (by decide) ?_
          refine va_forget (fun q hq => hA' _ (hS.2.2 q hq)) ?_
          refine W.widen (k := 600000) (n := 7302250) (Nat.le_of_ble_eq_true rfl) (Nat.le_of_ble_eq_true rfl) ?_
          exact lw_ret hx hb hr hlocks dL_law_1540
        · skip
          exact absurd c33 (by decide)
      · skip
        exact absurd c31 (by decide)

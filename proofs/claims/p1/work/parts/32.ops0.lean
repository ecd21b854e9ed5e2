set_option maxHeartbeats 4000000 in
set_option maxRecDepth 100000 in
theorem op_upper {p : Program} {e : Env} {s : State} {m : MethodId} {below : List Frame} {meth : Method} {c : Code} (l : Launch) {b : Nat} {xs : Nat → Int32} (C0 : lw_At p s m meth c b 6 xs) (g : zG) (hK : zK g s) (hN : zN s) (x0 : Nat) (aC : Nat) (aW : Value) (aT : Value) (aB : Value) (aL : Value) (aG : Value) (aM : Value) (aA : Nat) (aU : Value) (aE : Value) (aD : Value) (c0_ : Nat) (c0_1 : Nat) (c0_2 : Nat) (c0_3 : Nat) (c0_4 : Nat) (f0_1 : Nat → Int32) (f0_2 : Nat → Int32) (f0_3 : Nat → Int32) (f0_4 : Nat → Int32) (we0 : Int32) (se0 : Int32) (c1_ : Nat) (c1_1 : Nat) (c1_2 : Nat) (c1_3 : Nat) (c1_4 : Nat) (f1_1 : Nat → Int32) (f1_2 : Nat → Int32) (f1_3 : Nat → Int32) (f1_4 : Nat → Int32) (we1 : Int32) (se1 : Int32) (c2_ : Nat) (c2_1 : Nat) (c2_2 : Nat) (c2_3 : Nat) (c2_4 : Nat) (f2_1 : Nat → Int32) (f2_2 : Nat → Int32) (f2_3 : Nat → Int32) (f2_4 : Nat → Int32) (we2 : Int32) (se2 : Int32) (c3_ : Nat) (c3_1 : Nat) (c3_2 : Nat) (c3_3 : Nat) (c3_4 : Nat) (f3_1 : Nat → Int32) (f3_2 : Nat → Int32) (f3_3 : Nat → Int32) (f3_4 : Nat → Int32) (we3 : Int32) (se3 : Int32) (s1 : Value) (s2 : Value) (s3 : Value) (s4 : Value) (tm : Int32) (m0 : Nat) (bmu : Nat) (mu : Nat → Int32) (u2 : Value) (u3 : Value) (u4 : Value) (u9 : Value) (u10 : Value) (u11 : Value) (u12 : Value) (u13 : Value) (u14 : Value) (u15 : Value) (u17 : Value) (u18 : Value) (u19 : Value) (u20 : Value) (u21 : Value) (u22 : Value) (u23 : Value) (u24 : Value) (u25 : Value) (u26 : Value) (u27 : Value) (u28 : Value) (u29 : Value) (u30 : Value) (u31 : Value) (u32 : Value) (u33 : Value) (u34 : Value) (u35 : Value) (u36 : Value) (u37 : Value) (u38 : Value) (u39 : Value) (u40 : Value) (u41 : Value) (u42 : Value) (u43 : Value) (u44 : Value) (u45 : Value) (u46 : Value) (x0_hse0 : 0 ≤ se0.toInt ∧ se0.toInt ≤ 16) (x0_hse1 : 0 ≤ se1.toInt ∧ se1.toInt ≤ 16) (x0_hse2 : 0 ≤ se2.toInt ∧ se2.toInt ≤ 16) (x0_hse3 : 0 ≤ se3.toInt ∧ se3.toInt ≤ 16) {A : Nat → Prop} (hA : ∀ q, s.heap.size ≤ q → A q) (hA' : ∀ q, A q → s.heap.size ≤ q) (H : Heap) (locs : List Loc) (hS : va_S A s.heap H locs) (hP : zP g [(x0, .inr (8, [.ref aC, aW, aT, aB, aL, aG, aM, .ref aA, aU, aE, aD, .int 0, .int 0])), (aC, .inl (g.2 4, 4, .inr (.inr (.inr (.inr (zS [some c0_, some c1_, some c2_, some c3_])))))), (c0_, .inr (3, [.int we0, .ref c0_1, .ref c0_2, .ref c0_3, .ref c0_4, .int se0])), (c0_1, .inl (g.2 0, 32, .inl f0_1)), (c0_2, .inl (g.2 0, 33, .inl f0_2)), (c0_3, .inl (g.2 0, 33, .inl f0_3)), (c0_4, .inl (g.2 0, 16, .inl f0_4)), (c1_, .inr (3, [.int we1, .ref c1_1, .ref c1_2, .ref c1_3, .ref c1_4, .int se1])), (c1_1, .inl (g.2 0, 32, .inl f1_1)), (c1_2, .inl (g.2 0, 33, .inl f1_2)), (c1_3, .inl (g.2 0, 33, .inl f1_3)), (c1_4, .inl (g.2 0, 16, .inl f1_4)), (c2_, .inr (3, [.int we2, .ref c2_1, .ref c2_2, .ref c2_3, .ref c2_4, .int se2])), (c2_1, .inl (g.2 0, 32, .inl f2_1)), (c2_2, .inl (g.2 0, 33, .inl f2_2)), (c2_3, .inl (g.2 0, 33, .inl f2_3)), (c2_4, .inl (g.2 0, 16, .inl f2_4)), (c3_, .inr (3, [.int we3, .ref c3_1, .ref c3_2, .ref c3_3, .ref c3_4, .int se3])), (c3_1, .inl (g.2 0, 32, .inl f3_1)), (c3_2, .inl (g.2 0, 33, .inl f3_2)), (c3_3, .inl (g.2 0, 33, .inl f3_3)), (c3_4, .inl (g.2 0, 16, .inl f3_4)), (aA, .inr (0, [s1, s2, s3, s4, .int tm])), (m0, .inr (9, [.int 0, .ref bmu, u2, u3, u4, .int 0, .int 0, .int 0, .int 0, u9, u10, u11, u12, u13, u14, u15, .int 0, u17, u18, u19, u20, u21, u22, u23, u24, u25, u26, u27, u28, u29, u30, u31, u32, u33, u34, u35, u36, u37, u38, u39, u40, u41, u42, u43, u44, u45, u46])), (bmu, .inl (g.2 0, 128, .inl mu))] H) (hD : va_D A [(x0, .inr (8, [.ref aC, aW, aT, aB, aL, aG, aM, .ref aA, aU, aE, aD, .int 0, .int 0])), (aC, .inl (g.2 4, 4, .inr (.inr (.inr (.inr (zS [some c0_, some c1_, some c2_, some c3_])))))), (c0_, .inr (3, [.int we0, .ref c0_1, .ref c0_2, .ref c0_3, .ref c0_4, .int se0])), (c0_1, .inl (g.2 0, 32, .inl f0_1)), (c0_2, .inl (g.2 0, 33, .inl f0_2)), (c0_3, .inl (g.2 0, 33, .inl f0_3)), (c0_4, .inl (g.2 0, 16, .inl f0_4)), (c1_, .inr (3, [.int we1, .ref c1_1, .ref c1_2, .ref c1_3, .ref c1_4, .int se1])), (c1_1, .inl (g.2 0, 32, .inl f1_1)), (c1_2, .inl (g.2 0, 33, .inl f1_2)), (c1_3, .inl (g.2 0, 33, .inl f1_3)), (c1_4, .inl (g.2 0, 16, .inl f1_4)), (c2_, .inr (3, [.int we2, .ref c2_1, .ref c2_2, .ref c2_3, .ref c2_4, .int se2])), (c2_1, .inl (g.2 0, 32, .inl f2_1)), (c2_2, .inl (g.2 0, 33, .inl f2_2)), (c2_3, .inl (g.2 0, 33, .inl f2_3)), (c2_4, .inl (g.2 0, 16, .inl f2_4)), (c3_, .inr (3, [.int we3, .ref c3_1, .ref c3_2, .ref c3_3, .ref c3_4, .int se3])), (c3_1, .inl (g.2 0, 32, .inl f3_1)), (c3_2, .inl (g.2 0, 33, .inl f3_2)), (c3_3, .inl (g.2 0, 33, .inl f3_3)), (c3_4, .inl (g.2 0, 16, .inl f3_4)), (aA, .inr (0, [s1, s2, s3, s4, .int tm])), (m0, .inr (9, [.int 0, .ref bmu, u2, u3, u4, .int 0, .int 0, .int 0, .int 0, u9, u10, u11, u12, u13, u14, u15, .int 0, u17, u18, u19, u20, u21, u22, u23, u24, u25, u26, u27, u28, u29, u30, u31, u32, u33, u34, u35, u36, u37, u38, u39, u40, u41, u42, u43, u44, u45, u46])), (bmu, .inl (g.2 0, 128, .inl mu))]) (ls : Array Slot) (hl : lv_has ls 4 [(0, .ref b), (1, .ref x0), (2, .ref m0), (3, .int 0)]) : W p l e room_1 s m #[Value.ref b] below meth c H locs 210 203560 (lw_Z below #[Value.ref b] s) (F0 m 172 ls []) := by
  obtain ⟨hx, hb, hr, hml, hown, hts, hX, hbl, hlocks, hgv⟩ := C0
  have hg : ∀ w ∈ zGW, w.before #[Value.ref b] s = true := fun w h => hts w (List.mem_filter.mp h).1
  have hown : s.vm.findClass RL = some m.cls := hown
  have hbA : ¬ A b := fun h => absurd (hA' b h) (Nat.not_le.mpr hbl)
  refine lv_aload_n hx hb dL_law_172 rfl (lv_at hl 1 rfl) ?_
  refine lv_aload_n hx hb dL_law_173 rfl (lv_at hl 0 rfl) ?_
  refine lv_iload_n hx hb dL_law_174 rfl (lv_at hl 3 rfl) ?_
  refine lv_iconst (v := 1) hx hb dL_law_175 (by decide) ?_
  refine lv_iadd hx hb dL_law_176 ?_
  refine lv_topi (fun x1 ex1 => ?_)
  obtain rfl : x1 = 1 := ex1.trans (by decide)
  refine va_sld hx hb hX hbl hbA hS (z_in (by decide : (1 : Int32).toInt = 1) (by omega) (by omega)) dL_law_177 ?_
  refine W.eq (g2 := F0 m 178 ls [.int (xs 1), .ref x0]) rfl ?_
  refine lv_aload_n hx hb dL_law_178 rfl (lv_at hl 0 rfl) ?_
  refine lv_iload_n hx hb dL_law_179 rfl (lv_at hl 3 rfl) ?_
  refine lv_iconst (v := 2) hx hb dL_law_180 (by decide) ?_
  refine lv_iadd hx hb dL_law_181 ?_
  refine lv_topi (fun x2 ex2 => ?_)
  obtain rfl : x2 = 2 := ex2.trans (by decide)
  refine va_sld hx hb hX hbl hbA hS (z_in (by decide : (2 : Int32).toInt = 2) (by omega) (by omega)) dL_law_182 ?_
  refine W.eq (g2 := F0 m 183 ls [.int (xs 2), .int (xs 1), .ref x0]) rfl ?_
  refine lv_aload_n hx hb dL_law_183 rfl (lv_at hl 0 rfl) ?_
  refine lv_iload_n hx hb dL_law_184 rfl (lv_at hl 3 rfl) ?_
  refine lv_iconst (v := 3) hx hb dL_law_185 (by decide) ?_
  refine lv_iadd hx hb dL_law_186 ?_
  refine lv_topi (fun x3 ex3 => ?_)
  obtain rfl : x3 = 3 := ex3.trans (by decide)
  refine va_sld hx hb hX hbl hbA hS (z_in (by decide : (3 : Int32).toInt = 3) (by omega) (by omega)) dL_law_187 ?_
  refine W.eq (g2 := F0 m 188 ls [.int (xs 3), .int (xs 2), .int (xs 1), .ref x0]) rfl ?_
  have hPc := hP.sub (ws' := [(x0, .inr (8, [.ref aC, aW, aT, aB, aL, aG, aM, .ref aA, aU, aE, aD, .int 0, .int 0])), (aC, .inl (g.2 4, 4, .inr (.inr (.inr (.inr (zS [some c0_, some c1_, some c2_, some c3_])))))), (c0_, .inr (3, [.int we0, .ref c0_1, .ref c0_2, .ref c0_3, .ref c0_4, .int se0])), (c0_1, .inl (g.2 0, 32, .inl f0_1)), (c0_2, .inl (g.2 0, 33, .inl f0_2)), (c0_3, .inl (g.2 0, 33, .inl f0_3)), (c0_4, .inl (g.2 0, 16, .inl f0_4)), (c1_, .inr (3, [.int we1, .ref c1_1, .ref c1_2, .ref c1_3, .ref c1_4, .int se1])), (c1_1, .inl (g.2 0, 32, .inl f1_1)), (c1_2, .inl (g.2 0, 33, .inl f1_2)), (c1_3, .inl (g.2 0, 33, .inl f1_3)), (c1_4, .inl (g.2 0, 16, .inl f1_4)), (c2_, .inr (3, [.int we2, .ref c2_1, .ref c2_2, .ref c2_3, .ref c2_4, .int se2])), (c2_1, .inl (g.2 0, 32, .inl f2_1)), (c2_2, .inl (g.2 0, 33, .inl f2_2)), (c2_3, .inl (g.2 0, 33, .inl f2_3)), (c2_4, .inl (g.2 0, 16, .inl f2_4)), (c3_, .inr (3, [.int we3, .ref c3_1, .ref c3_2, .ref c3_3, .ref c3_4, .int se3])), (c3_1, .inl (g.2 0, 32, .inl f3_1)), (c3_2, .inl (g.2 0, 33, .inl f3_2)), (c3_3, .inl (g.2 0, 33, .inl f3_3)), (c3_4, .inl (g.2 0, 16, .inl f3_4)), (aA, .inr (0, [s1, s2, s3, s4, .int tm]))]) [0, 1, 2, 3, 4, 5, 6, 7, 8, 9, 10, 11, 12, 13, 14, 15, 16, 17, 18, 19, 20, 21, 22] rfl
  have hDc := hD.sub (ws' := [(x0, .inr (8, [.ref aC, aW, aT, aB, aL, aG, aM, .ref aA, aU, aE, aD, .int 0, .int 0])), (aC, .inl (g.2 4, 4, .inr (.inr (.inr (.inr (zS [some c0_, some c1_, some c2_, some c3_])))))), (c0_, .inr (3, [.int we0, .ref c0_1, .ref c0_2, .ref c0_3, .ref c0_4, .int se0])), (c0_1, .inl (g.2 0, 32, .inl f0_1)), (c0_2, .inl (g.2 0, 33, .inl f0_2)), (c0_3, .inl (g.2 0, 33, .inl f0_3)), (c0_4, .inl (g.2 0, 16, .inl f0_4)), (c1_, .inr (3, [.int we1, .ref c1_1, .ref c1_2, .ref c1_3, .ref c1_4, .int se1])), (c1_1, .inl (g.2 0, 32, .inl f1_1)), (c1_2, .inl (g.2 0, 33, .inl f1_2)), (c1_3, .inl (g.2 0, 33, .inl f1_3)), (c1_4, .inl (g.2 0, 16, .inl f1_4)), (c2_, .inr (3, [.int we2, .ref c2_1, .ref c2_2, .ref c2_3, .ref c2_4, .int se2])), (c2_1, .inl (g.2 0, 32, .inl f2_1)), (c2_2, .inl (g.2 0, 33, .inl f2_2)), (c2_3, .inl (g.2 0, 33, .inl f2_3)), (c2_4, .inl (g.2 0, 16, .inl f2_4)), (c3_, .inr (3, [.int we3, .ref c3_1, .ref c3_2, .ref c3_3, .ref c3_4, .int se3])), (c3_1, .inl (g.2 0, 32, .inl f3_1)), (c3_2, .inl (g.2 0, 33, .inl f3_2)), (c3_3, .inl (g.2 0, 33, .inl f3_3)), (c3_4, .inl (g.2 0, 16, .inl f3_4)), (aA, .inr (0, [s1, s2, s3, s4, .int tm]))]) [0, 1, 2, 3, 4, 5, 6, 7, 8, 9, 10, 11, 12, 13, 14, 15, 16, 17, 18, 19, 20, 21, 22] (by decide) rfl
  have hFc := va_free (wc := [(x0, .inr (8, [.ref aC, aW, aT, aB, aL, aG, aM, .ref aA, aU, aE, aD, .int 0, .int 0])), (aC, .inl (g.2 4, 4, .inr (.inr (.inr (.inr (zS [some c0_, some c1_, some c2_, some c3_])))))), (c0_, .inr (3, [.int we0, .ref c0_1, .ref c0_2, .ref c0_3, .ref c0_4, .int se0])), (c0_1, .inl (g.2 0, 32, .inl f0_1)), (c0_2, .inl (g.2 0, 33, .inl f0_2)), (c0_3, .inl (g.2 0, 33, .inl f0_3)), (c0_4, .inl (g.2 0, 16, .inl f0_4)), (c1_, .inr (3, [.int we1, .ref c1_1, .ref c1_2, .ref c1_3, .ref c1_4, .int se1])), (c1_1, .inl (g.2 0, 32, .inl f1_1)), (c1_2, .inl (g.2 0, 33, .inl f1_2)), (c1_3, .inl (g.2 0, 33, .inl f1_3)), (c1_4, .inl (g.2 0, 16, .inl f1_4)), (c2_, .inr (3, [.int we2, .ref c2_1, .ref c2_2, .ref c2_3, .ref c2_4, .int se2])), (c2_1, .inl (g.2 0, 32, .inl f2_1)), (c2_2, .inl (g.2 0, 33, .inl f2_2)), (c2_3, .inl (g.2 0, 33, .inl f2_3)), (c2_4, .inl (g.2 0, 16, .inl f2_4)), (c3_, .inr (3, [.int we3, .ref c3_1, .ref c3_2, .ref c3_3, .ref c3_4, .int se3])), (c3_1, .inl (g.2 0, 32, .inl f3_1)), (c3_2, .inl (g.2 0, 33, .inl f3_2)), (c3_3, .inl (g.2 0, 33, .inl f3_3)), (c3_4, .inl (g.2 0, 16, .inl f3_4)), (aA, .inr (0, [s1, s2, s3, s4, .int tm]))]) hD hS hA [0, 1, 2, 3, 4, 5, 6, 7, 8, 9, 10, 11, 12, 13, 14, 15, 16, 17, 18, 19, 20, 21, 22] rfl
  refine va_calli (va_runV (As := [.int (xs 1), .int (xs 2), .int (xs 3)]) (rest := []) ⟨hx, hb, hml, hown, hg⟩ (c_X8_upper l g _ x0 aC (aW : Value) (aT : Value) (aB : Value) (aL : Value) (aG : Value) (aM : Value) aA (aU : Value) (aE : Value) (aD : Value) c0_ c0_1 c0_2 c0_3 c0_4 f0_1 f0_2 f0_3 f0_4 we0 se0 c1_ c1_1 c1_2 c1_3 c1_4 f1_1 f1_2 f1_3 f1_4 we1 se1 c2_ c2_1 c2_2 c2_3 c2_4 f2_1 f2_2 f2_3 f2_4 we2 se2 c3_ c3_1 c3_2 c3_3 c3_4 f3_1 f3_2 f3_3 f3_4 we3 se3 (s1 : Value) (s2 : Value) (s3 : Value) (s4 : Value) tm (xs 1) (xs 2) (xs 3) (by first | omega | assumption | decide | (rw [nI_toInt] <;> omega)) (by first | omega | assumption | decide | (rw [nI_toInt] <;> omega)) (by first | omega | assumption | decide | (rw [nI_toInt] <;> omega)) (by first | omega | assumption | decide | (rw [nI_toInt] <;> omega))) (cwV 3 hg (z_gV mm_400 mm_401 mm_402 mm_108 mm_403) rfl rfl rfl (by decide +kernel) ⟨Nat.le_of_ble_eq_true rfl, Nat.le_of_ble_eq_true rfl⟩) ⟨(zA.pre [.ref x0, .int (xs 1), .int (xs 2), .int (xs 3)] hPc hK hDc hN).1, va_recv hK hPc (ci := 8) (q0 := 0) rfl rfl, (zA.pre [.ref x0, .int (xs 1), .int (xs 2), .int (xs 3)] hPc hK hDc hN).2⟩ rfl rfl hl.1 rfl (lv_room (Nat.le_of_ble_eq_true rfl)) dL_law_188 ⟨Nat.le_of_ble_eq_true rfl, Nat.le_of_ble_eq_true rfl⟩) hS (fun q _ h => hFc q h) hFc (fun r4 _ t H1 locs ht hvm hr4 hB hz1 hk1 hS => ?_)
  obtain ⟨hP1, hD1⟩ := hB
  rw [ht] at hP1
  obtain ⟨hP, hD⟩ := va_join (wr := [(m0, .inr (9, [.int 0, .ref bmu, u2, u3, u4, .int 0, .int 0, .int 0, .int 0, u9, u10, u11, u12, u13, u14, u15, .int 0, u17, u18, u19, u20, u21, u22, u23, u24, u25, u26, u27, u28, u29, u30, u31, u32, u33, u34, u35, u36, u37, u38, u39, u40, u41, u42, u43, u44, u45, u46])), (bmu, .inl (g.2 0, 128, .inl mu))]) (w1 := []) hP hD [0, 1, 2, 3, 4, 5, 6, 7, 8, 9, 10, 11, 12, 13, 14, 15, 16, 17, 18, 19, 20, 21, 22] [23, 24] rfl rfl (by decide) (by decide) hk1 hFc hP1 hD1
  generalize H1 = H at hP hS ⊢
  refine W.widen (k := 210) (n := 203560) (Nat.le_of_ble_eq_true rfl) (Nat.le_of_ble_eq_true rfl) ?_
  have hP : zP g [(m0, .inr (9, [.int 0, .ref bmu, u2, u3, u4, .int 0, .int 0, .int 0, .int 0, u9, u10, u11, u12, u13, u14, u15, .int 0, u17, u18, u19, u20, u21, u22, u23, u24, u25, u26, u27, u28, u29, u30, u31, u32, u33, u34, u35, u36, u37, u38, u39, u40, u41, u42, u43, u44, u45, u46])), (bmu, .inl (g.2 0, 128, .inl mu))] H := hP
  have hD : va_D A [(m0, .inr (9, [.int 0, .ref bmu, u2, u3, u4, .int 0, .int 0, .int 0, .int 0, u9, u10, u11, u12, u13, u14, u15, .int 0, u17, u18, u19, u20, u21, u22, u23, u24, u25, u26, u27, u28, u29, u30, u31, u32, u33, u34, u35, u36, u37, u38, u39, u40, u41, u42, u43, u44, u45, u46])), (bmu, .inl (g.2 0, 128, .inl mu))] := hD
  rcases hr4 with hr4 | hr4
  · skip
    obtain ⟨rfl, h5⟩ := hr4
    have h5 : 0 ≤ (xs 1).toInt ∧ (xs 1).toInt ≤ 3 ∧ (0 ≤ (xs 2).toInt ∧ (xs 2).toInt ≤ 31) ∧ ((xs 3).toInt = -1 ∨ (16 ≤ (xs 3).toInt ∧ (xs 3).toInt ≤ 31) ∧ (xs 2).toInt < (xs 3).toInt) := h5
    refine lv_aload_n hx hb dL_law_191 rfl (lv_at hl 2 rfl) ?_
    refine lv_aload_n hx hb dL_law_192 rfl (lv_at hl 0 rfl) ?_
    refine lv_iload_n hx hb dL_law_193 rfl (lv_at hl 3 rfl) ?_
    refine lv_iconst (v := 1) hx hb dL_law_194 (by decide) ?_
    refine lv_iadd hx hb dL_law_195 ?_
    refine lv_topi (fun x6 ex6 => ?_)
    obtain rfl : x6 = 1 := ex6.trans (by decide)
    refine va_sld hx hb hX hbl hbA hS (z_in (by decide : (1 : Int32).toInt = 1) (by omega) (by omega)) dL_law_196 ?_
    refine W.eq (g2 := F0 m 197 ls [.int (xs 1), .ref m0, .int 1]) rfl ?_
    refine lv_aload_n hx hb dL_law_197 rfl (lv_at hl 0 rfl) ?_
    refine lv_iload_n hx hb dL_law_198 rfl (lv_at hl 3 rfl) ?_
    refine lv_iconst (v := 2) hx hb dL_law_199 (by decide) ?_
    refine lv_iadd hx hb dL_law_200 ?_
    refine lv_topi (fun x7 ex7 => ?_)
    obtain rfl : x7 = 2 := ex7.trans (by decide)
    refine va_sld hx hb hX hbl hbA hS (z_in (by decide : (2 : Int32).toInt = 2) (by omega) (by omega)) dL_law_201 ?_
    refine W.eq (g2 := F0 m 202 ls [.int (xs 2), .int (xs 1), .ref m0, .int 1]) rfl ?_
    refine lv_aload_n hx hb dL_law_202 rfl (lv_at hl 0 rfl) ?_
    refine lv_iload_n hx hb dL_law_203 rfl (lv_at hl 3 rfl) ?_
    refine lv_iconst (v := 3) hx hb dL_law_204 (by decide) ?_
    refine lv_iadd hx hb dL_law_205 ?_
    refine lv_topi (fun x8 ex8 => ?_)
    obtain rfl : x8 = 3 := ex8.trans (by decide)
    refine va_sld hx hb hX hbl hbA hS (z_in (by decide : (3 : Int32).toInt = 3) (by omega) (by omega)) dL_law_206 ?_
    refine W.eq (g2 := F0 m 207 ls [.int (xs 3), .int (xs 2), .int (xs 1), .ref m0, .int 1]) rfl ?_
    have hPc := hP.sub (ws' := [(m0, .inr (9, [.int 0, .ref bmu, u2, u3, u4, .int 0, .int 0, .int 0, .int 0, u9, u10, u11, u12, u13, u14, u15, .int 0, u17, u18, u19, u20, u21, u22, u23, u24, u25, u26, u27, u28, u29, u30, u31, u32, u33, u34, u35, u36, u37, u38, u39, u40, u41, u42, u43, u44, u45, u46])), (bmu, .inl (g.2 0, 128, .inl mu))]) [0, 1] rfl
    have hDc := hD.sub (ws' := [(m0, .inr (9, [.int 0, .ref bmu, u2, u3, u4, .int 0, .int 0, .int 0, .int 0, u9, u10, u11, u12, u13, u14, u15, .int 0, u17, u18, u19, u20, u21, u22, u23, u24, u25, u26, u27, u28, u29, u30, u31, u32, u33, u34, u35, u36, u37, u38, u39, u40, u41, u42, u43, u44, u45, u46])), (bmu, .inl (g.2 0, 128, .inl mu))]) [0, 1] (by decide) rfl
    have hFc := va_free (wc := [(m0, .inr (9, [.int 0, .ref bmu, u2, u3, u4, .int 0, .int 0, .int 0, .int 0, u9, u10, u11, u12, u13, u14, u15, .int 0, u17, u18, u19, u20, u21, u22, u23, u24, u25, u26, u27, u28, u29, u30, u31, u32, u33, u34, u35, u36, u37, u38, u39, u40, u41, u42, u43, u44, u45, u46])), (bmu, .inl (g.2 0, 128, .inl mu))]) hD hS hA [0, 1] rfl
    refine va_calli (va_runV (As := [.int (xs 1), .int (xs 2), .int (xs 3)]) (rest := [.int 1]) ⟨hx, hb, hml, hown, hg⟩ (c_X9_upper l g _ m0 bmu mu (u2 : Value) (u3 : Value) (u4 : Value) (u9 : Value) (u10 : Value) (u11 : Value) (u12 : Value) (u13 : Value) (u14 : Value) (u15 : Value) (u17 : Value) (u18 : Value) (u19 : Value) (u20 : Value) (u21 : Value) (u22 : Value) (u23 : Value) (u24 : Value) (u25 : Value) (u26 : Value) (u27 : Value) (u28 : Value) (u29 : Value) (u30 : Value) (u31 : Value) (u32 : Value) (u33 : Value) (u34 : Value) (u35 : Value) (u36 : Value) (u37 : Value) (u38 : Value) (u39 : Value) (u40 : Value) (u41 : Value) (u42 : Value) (u43 : Value) (u44 : Value) (u45 : Value) (u46 : Value) (xs 1) (xs 2) (xs 3) ) (cwV 3 hg (z_gV mm_1102 mm_1103 mm_1104 mm_117 mm_1105) rfl rfl rfl (by decide +kernel) ⟨Nat.le_of_ble_eq_true rfl, Nat.le_of_ble_eq_true rfl⟩) ⟨(zA.pre [.ref m0, .int (xs 1), .int (xs 2), .int (xs 3)] hPc hK hDc hN).1, va_recv hK hPc (ci := 9) (q0 := 0) rfl rfl, (zA.pre [.ref m0, .int (xs 1), .int (xs 2), .int (xs 3)] hPc hK hDc hN).2⟩ rfl rfl hl.1 rfl (lv_room (Nat.le_of_ble_eq_true rfl)) dL_law_207 ⟨Nat.le_of_ble_eq_true rfl, Nat.le_of_ble_eq_true rfl⟩) hS (fun q _ h => hFc q h) hFc (fun r9 _ t H1 locs ht hvm hr9 hB hz1 hk1 hS => ?_)
    obtain ⟨hP1, hD1⟩ := hB
    rw [ht] at hP1
    obtain ⟨hP, hD⟩ := va_join (wr := []) (w1 := []) hP hD [0, 1] [] rfl rfl (by decide) (by decide) hk1 hFc hP1 hD1
    generalize H1 = H at hP hS ⊢
    refine W.widen (k := 210) (n := 203560) (Nat.le_of_ble_eq_true rfl) (Nat.le_of_ble_eq_true rfl) ?_
    have hP : zP g [] H := hP
    have hD : va_D A [] := hD
    rcases hr9 with hr9 | hr9
    · skip
      obtain ⟨rfl, h10⟩ := hr9
      have h10 : 0 ≤ (xs 1).toInt ∧ (xs 1).toInt ≤ 3 ∧ (0 ≤ (xs 2).toInt ∧ (xs 2).toInt ≤ 31) ∧ ((xs 3).toInt = -1 ∨ (16 ≤ (xs 3).toInt ∧ (xs 3).toInt ≤ 31) ∧ (xs 2).toInt < (xs 3).toInt) := h10
      refine lv_icmp_eq (tgt := 1533) hx hb dL_law_210 (by decide) (fun c11 => ?_) (fun c11 => ?_)
      · skip
        refine lv_iinc (v := 6) (lv' := [(3, .int 6), (0, .ref b), (1, .ref x0), (2, .ref m0)]) hx hb dL_law_1533 hl (k := 3) rfl (by decide) (by decide) rfl (fun ls hl => ?_)
        refine lv_goto (tgt := 18) hx hb dL_law_1536 (by decide) ?_
        refine lv_iload_n hx hb dL_law_18 rfl (lv_at hl 0 rfl) ?_
        refine lv_aload_n hx hb dL_law_19 rfl (lv_at hl 1 rfl) ?_
        refine va_slen hx hb hX hbl hbA hS dL_law_20 ?_
        refine W.eq (g2 := F0 m 21 ls [.int 6, .int 6]) rfl ?_
        refine lv_bipush (v := 6) hx hb dL_law_21 (by decide) ?_
        refine lv_isub hx hb dL_law_23 ?_
        refine lv_topi (fun x12 ex12 => ?_)
        obtain rfl : x12 = 0 := ex12.trans (by decide)
        refine lv_icmp_gt (tgt := 1539) hx hb dL_law_24 (by decide) (fun c13 => ?_) (fun c13 => ?_)
        · skip
          refine lv_iconst (v := 1) hx hb dL_law_1539 (by decide) ?_
          refine va_forget (fun q hq => hA' _ (hS.2.2 q hq)) ?_
          refine W.widen (k := 600000) (n := 7302250) (Nat.le_of_ble_eq_true rfl) (Nat.le_of_ble_eq_true rfl) ?_
          exact lw_ret hx hb hr hlocks dL_law_1540
        · skip
          exact absurd c13 (by decide)
      · skip
        exact absurd c11 (by decide)
    · skip
      obtain ⟨rfl, h14⟩ := hr9
      have h14 : ¬ (0 ≤ (xs 1).toInt ∧ (xs 1).toInt ≤ 3 ∧ (0 ≤ (xs 2).toInt ∧ (xs 2).toInt ≤ 31) ∧ ((xs 3).toInt = -1 ∨ (16 ≤ (xs 3).toInt ∧ (xs 3).toInt ≤ 31) ∧ (xs 2).toInt < (xs 3).toInt)) := h14
      exfalso
      omega
  · skip
    obtain ⟨rfl, h15⟩ := hr4
    have h15 : ¬ (0 ≤ (xs 1).toInt ∧ (xs 1).toInt ≤ 3 ∧ (0 ≤ (xs 2).toInt ∧ (xs 2).toInt ≤ 31) ∧ ((xs 3).toInt = -1 ∨ (16 ≤ (xs 3).toInt ∧ (xs 3).toInt ≤ 31) ∧ (xs 2).toInt < (xs 3).toInt)) := h15
    refine lv_aload_n hx hb dL_law_191 rfl (lv_at hl 2 rfl) ?_
    refine lv_aload_n hx hb dL_law_192 rfl (lv_at hl 0 rfl) ?_
    refine lv_iload_n hx hb dL_law_193 rfl (lv_at hl 3 rfl) ?_
    refine lv_iconst (v := 1) hx hb dL_law_194 (by decide) ?_
    refine lv_iadd hx hb dL_law_195 ?_
    refine lv_topi (fun x16 ex16 => ?_)
    obtain rfl : x16 = 1 := ex16.trans (by decide)
    refine va_sld hx hb hX hbl hbA hS (z_in (by decide : (1 : Int32).toInt = 1) (by omega) (by omega)) dL_law_196 ?_
    refine W.eq (g2 := F0 m 197 ls [.int (xs 1), .ref m0, .int 0]) rfl ?_
    refine lv_aload_n hx hb dL_law_197 rfl (lv_at hl 0 rfl) ?_
    refine lv_iload_n hx hb dL_law_198 rfl (lv_at hl 3 rfl) ?_
    refine lv_iconst (v := 2) hx hb dL_law_199 (by decide) ?_
    refine lv_iadd hx hb dL_law_200 ?_
    refine lv_topi (fun x17 ex17 => ?_)
    obtain rfl : x17 = 2 := ex17.trans (by decide)
    refine va_sld hx hb hX hbl hbA hS (z_in (by decide : (2 : Int32).toInt = 2) (by omega) (by omega)) dL_law_201 ?_
    refine W.eq (g2 := F0 m 202 ls [.int (xs 2), .int (xs 1), .ref m0, .int 0]) rfl ?_
    refine lv_aload_n hx hb dL_law_202 rfl (lv_at hl 0 rfl) ?_
    refine lv_iload_n hx hb dL_law_203 rfl (lv_at hl 3 rfl) ?_
    refine lv_iconst (v := 3) hx hb dL_law_204 (by decide) ?_
    refine lv_iadd hx hb dL_law_205 ?_
    refine lv_topi (fun x18 ex18 => ?_)
    obtain rfl : x18 = 3 := ex18.trans (by decide)
    refine va_sld hx hb hX hbl hbA hS (z_in (by decide : (3 : Int32).toInt = 3) (by omega) (by omega)) dL_law_206 ?_
    refine W.eq (g2 := F0 m 207 ls [.int (xs 3), .int (xs 2), .int (xs 1), .ref m0, .int 0]) rfl ?_
    have hPc := hP.sub (ws' := [(m0, .inr (9, [.int 0, .ref bmu, u2, u3, u4, .int 0, .int 0, .int 0, .int 0, u9, u10, u11, u12, u13, u14, u15, .int 0, u17, u18, u19, u20, u21, u22, u23, u24, u25, u26, u27, u28, u29, u30, u31, u32, u33, u34, u35, u36, u37, u38, u39, u40, u41, u42, u43, u44, u45, u46])), (bmu, .inl (g.2 0, 128, .inl mu))]) [0, 1] rfl
    have hDc := hD.sub (ws' := [(m0, .inr (9, [.int 0, .ref bmu, u2, u3, u4, .int 0, .int 0, .int 0, .int 0, u9, u10, u11, u12, u13, u14, u15, .int 0, u17, u18, u19, u20, u21, u22, u23, u24, u25, u26, u27, u28, u29, u30, u31, u32, u33, u34, u35, u36, u37, u38, u39, u40, u41, u42, u43, u44, u45, u46])), (bmu, .inl (g.2 0, 128, .inl mu))]) [0, 1] (by decide) rfl
    have hFc := va_free (wc := [(m0, .inr (9, [.int 0, .ref bmu, u2, u3, u4, .int 0, .int 0, .int 0, .int 0, u9, u10, u11, u12, u13, u14, u15, .int 0, u17, u18, u19, u20, u21, u22, u23, u24, u25, u26, u27, u28, u29, u30, u31, u32, u33, u34, u35, u36, u37, u38, u39, u40, u41, u42, u43, u44, u45, u46])), (bmu, .inl (g.2 0, 128, .inl mu))]) hD hS hA [0, 1] rfl
    refine va_calli (va_runV (As := [.int (xs 1), .int (xs 2), .int (xs 3)]) (rest := [.int 0]) ⟨hx, hb, hml, hown, hg⟩ (c_X9_upper l g _ m0 bmu mu (u2 : Value) (u3 : Value) (u4 : Value) (u9 : Value) (u10 : Value) (u11 : Value) (u12 : Value) (u13 : Value) (u14 : Value) (u15 : Value) (u17 : Value) (u18 : Value) (u19 : Value) (u20 : Value) (u21 : Value) (u22 : Value) (u23 : Value) (u24 : Value) (u25 : Value) (u26 : Value) (u27 : Value) (u28 : Value) (u29 : Value) (u30 : Value) (u31 : Value) (u32 : Value) (u33 : Value) (u34 : Value) (u35 : Value) (u36 : Value) (u37 : Value) (u38 : Value) (u39 : Value) (u40 : Value) (u41 : Value) (u42 : Value) (u43 : Value) (u44 : Value) (u45 : Value) (u46 : Value) (xs 1) (xs 2) (xs 3) ) (cwV 3 hg (z_gV mm_1102 mm_1103 mm_1104 mm_117 mm_1105) rfl rfl rfl (by decide +kernel) ⟨Nat.le_of_ble_eq_true rfl, Nat.le_of_ble_eq_true rfl⟩) ⟨(zA.pre [.ref m0, .int (xs 1), .int (xs 2), .int (xs 3)] hPc hK hDc hN).1, va_recv hK hPc (ci := 9) (q0 := 0) rfl rfl, (zA.pre [.ref m0, .int (xs 1), .int (xs 2), .int (xs 3)] hPc hK hDc hN).2⟩ rfl rfl hl.1 rfl (lv_room (Nat.le_of_ble_eq_true rfl)) dL_law_207 ⟨Nat.le_of_ble_eq_true rfl, Nat.le_of_ble_eq_true rfl⟩) hS (fun q _ h => hFc q h) hFc (fun r19 _ t H1 locs ht hvm hr19 hB hz1 hk1 hS => ?_)
    obtain ⟨hP1, hD1⟩ := hB
    rw [ht] at hP1
    obtain ⟨hP, hD⟩ := va_join (wr := []) (w1 := []) hP hD [0, 1] [] rfl rfl (by decide) (by decide) hk1 hFc hP1 hD1
    generalize H1 = H at hP hS ⊢
    refine W.widen (k := 210) (n := 203560) (Nat.le_of_ble_eq_true rfl) (Nat.le_of_ble_eq_true rfl) ?_
    have hP : zP g [] H := hP
    have hD : va_D A [] := hD
    rcases hr19 with hr19 | hr19
    · skip
      obtain ⟨rfl, h20⟩ := hr19
      have h20 : 0 ≤ (xs 1).toInt ∧ (xs 1).toInt ≤ 3 ∧ (0 ≤ (xs 2).toInt ∧ (xs 2).toInt ≤ 31) ∧ ((xs 3).toInt = -1 ∨ (16 ≤ (xs 3).toInt ∧ (xs 3).toInt ≤ 31) ∧ (xs 2).toInt < (xs 3).toInt) := h20
      exfalso
      omega
    · skip
      obtain ⟨rfl, h21⟩ := hr19
      have h21 : ¬ (0 ≤ (xs 1).toInt ∧ (xs 1).toInt ≤ 3 ∧ (0 ≤ (xs 2).toInt ∧ (xs 2).toInt ≤ 31) ∧ ((xs 3).toInt = -1 ∨ (16 ≤ (xs 3).toInt ∧ (xs 3).toInt ≤ 31) ∧ (xs 2).toInt < (xs 3).toInt)) := h21
      refine lv_icmp_eq (tgt := 1533) hx hb dL_law_210 (by decide) (fun c22 => ?_) (fun c22 => ?_)
      · skip
        refine lv_iinc (v := 6) (lv' := [(3, .int 6), (0, .ref b), (1, .ref x0), (2, .ref m0)]) hx hb dL_law_1533 hl (k := 3) rfl (by decide) (by decide) rfl (fun ls hl => ?_)
        refine lv_goto (tgt := 18) hx hb dL_law_1536 (by decide) ?_
        refine lv_iload_n hx hb dL_law_18 rfl (lv_at hl 0 rfl) ?_
        refine lv_aload_n hx hb dL_law_19 rfl (lv_at hl 1 rfl) ?_
        refine va_slen hx hb hX hbl hbA hS dL_law_20 ?_
        refine W.eq (g2 := F0 m 21 ls [.int 6, .int 6]) rfl ?_
        refine lv_bipush (v := 6) hx hb dL_law_21 (by decide) ?_
        refine lv_isub hx hb dL_law_23 ?_
        refine lv_topi (fun x23 ex23 => ?_)
        obtain rfl : x23 = 0 := ex23.trans (by decide)
        refine lv_icmp_gt (tgt := 1539) hx hb dL_law_24 (by decide) (fun c24 => ?_) (fun c24 => ?_)
        · skip
          refine lv_iconst (v := 1) hx hb dL_law_1539 (by decide) ?_
          refine va_forget (fun q hq => hA' _ (hS.2.2 q hq)) ?_
          refine W.widen (k := 600000) (n := 7302250) (Nat.le_of_ble_eq_true rfl) (Nat.le_of_ble_eq_true rfl) ?_
          exact lw_ret hx hb hr hlocks dL_law_1540
        · skip
          exact absurd c24 (by decide)
      · skip
        exact absurd c22 (by decide)

set_option maxHeartbeats 4000000 in
set_option maxRecDepth 100000 in
theorem op_weight {p : Program} {e : Env} {s : State} {m : MethodId} {below : List Frame} {meth : Method} {c : Code} (l : Launch) {b : Nat} {xs : Nat → Int32} (C0 : lw_At p s m meth c b 6 xs) (g : zG) (hK : zK g s) (hN : zN s) (x0 : Nat) (aC : Nat) (aW : Value) (aT : Value) (aB : Value) (aL : Value) (aG : Value) (aM : Value) (aA : Value) (aU : Value) (aE : Value) (aD : Value) (c0_ : Nat) (c0_1 : Nat) (c0_2 : Nat) (c0_3 : Nat) (c0_4 : Nat) (f0_1 : Nat → Int32) (f0_2 : Nat → Int32) (f0_3 : Nat → Int32) (f0_4 : Nat → Int32) (we0 : Int32) (se0 : Int32) (c1_ : Nat) (c1_1 : Nat) (c1_2 : Nat) (c1_3 : Nat) (c1_4 : Nat) (f1_1 : Nat → Int32) (f1_2 : Nat → Int32) (f1_3 : Nat → Int32) (f1_4 : Nat → Int32) (we1 : Int32) (se1 : Int32) (c2_ : Nat) (c2_1 : Nat) (c2_2 : Nat) (c2_3 : Nat) (c2_4 : Nat) (f2_1 : Nat → Int32) (f2_2 : Nat → Int32) (f2_3 : Nat → Int32) (f2_4 : Nat → Int32) (we2 : Int32) (se2 : Int32) (c3_ : Nat) (c3_1 : Nat) (c3_2 : Nat) (c3_3 : Nat) (c3_4 : Nat) (f3_1 : Nat → Int32) (f3_2 : Nat → Int32) (f3_3 : Nat → Int32) (f3_4 : Nat → Int32) (we3 : Int32) (se3 : Int32) (m0 : Nat) (u1 : Value) (bmw : Nat) (mw : Nat → Int32) (u3 : Value) (u4 : Value) (u9 : Value) (u10 : Value) (u11 : Value) (u12 : Value) (u13 : Value) (u14 : Value) (u15 : Value) (u17 : Value) (u18 : Value) (u19 : Value) (u20 : Value) (u21 : Value) (u22 : Value) (u23 : Value) (u24 : Value) (u25 : Value) (u26 : Value) (u27 : Value) (u28 : Value) (u29 : Value) (u30 : Value) (u31 : Value) (u32 : Value) (u33 : Value) (u34 : Value) (u35 : Value) (u36 : Value) (u37 : Value) (u38 : Value) (u39 : Value) (u40 : Value) (u41 : Value) (u42 : Value) (u43 : Value) (u44 : Value) (u45 : Value) (u46 : Value) {A : Nat → Prop} (hA : ∀ q, s.heap.size ≤ q → A q) (hA' : ∀ q, A q → s.heap.size ≤ q) (H : Heap) (locs : List Loc) (hS : va_S A s.heap H locs) (hP : zP g [(x0, .inr (8, [.ref aC, aW, aT, aB, aL, aG, aM, aA, aU, aE, aD, .int 0, .int 0])), (aC, .inl (g.2 4, 4, .inr (.inr (.inr (.inr (zS [some c0_, some c1_, some c2_, some c3_])))))), (c0_, .inr (3, [.int we0, .ref c0_1, .ref c0_2, .ref c0_3, .ref c0_4, .int se0])), (c0_1, .inl (g.2 0, 32, .inl f0_1)), (c0_2, .inl (g.2 0, 33, .inl f0_2)), (c0_3, .inl (g.2 0, 33, .inl f0_3)), (c0_4, .inl (g.2 0, 16, .inl f0_4)), (c1_, .inr (3, [.int we1, .ref c1_1, .ref c1_2, .ref c1_3, .ref c1_4, .int se1])), (c1_1, .inl (g.2 0, 32, .inl f1_1)), (c1_2, .inl (g.2 0, 33, .inl f1_2)), (c1_3, .inl (g.2 0, 33, .inl f1_3)), (c1_4, .inl (g.2 0, 16, .inl f1_4)), (c2_, .inr (3, [.int we2, .ref c2_1, .ref c2_2, .ref c2_3, .ref c2_4, .int se2])), (c2_1, .inl (g.2 0, 32, .inl f2_1)), (c2_2, .inl (g.2 0, 33, .inl f2_2)), (c2_3, .inl (g.2 0, 33, .inl f2_3)), (c2_4, .inl (g.2 0, 16, .inl f2_4)), (c3_, .inr (3, [.int we3, .ref c3_1, .ref c3_2, .ref c3_3, .ref c3_4, .int se3])), (c3_1, .inl (g.2 0, 32, .inl f3_1)), (c3_2, .inl (g.2 0, 33, .inl f3_2)), (c3_3, .inl (g.2 0, 33, .inl f3_3)), (c3_4, .inl (g.2 0, 16, .inl f3_4)), (m0, .inr (9, [.int 0, u1, .ref bmw, u3, u4, .int 0, .int 0, .int 0, .int 0, u9, u10, u11, u12, u13, u14, u15, .int 0, u17, u18, u19, u20, u21, u22, u23, u24, u25, u26, u27, u28, u29, u30, u31, u32, u33, u34, u35, u36, u37, u38, u39, u40, u41, u42, u43, u44, u45, u46])), (bmw, .inl (g.2 0, 4, .inl mw))] H) (hD : va_D A [(x0, .inr (8, [.ref aC, aW, aT, aB, aL, aG, aM, aA, aU, aE, aD, .int 0, .int 0])), (aC, .inl (g.2 4, 4, .inr (.inr (.inr (.inr (zS [some c0_, some c1_, some c2_, some c3_])))))), (c0_, .inr (3, [.int we0, .ref c0_1, .ref c0_2, .ref c0_3, .ref c0_4, .int se0])), (c0_1, .inl (g.2 0, 32, .inl f0_1)), (c0_2, .inl (g.2 0, 33, .inl f0_2)), (c0_3, .inl (g.2 0, 33, .inl f0_3)), (c0_4, .inl (g.2 0, 16, .inl f0_4)), (c1_, .inr (3, [.int we1, .ref c1_1, .ref c1_2, .ref c1_3, .ref c1_4, .int se1])), (c1_1, .inl (g.2 0, 32, .inl f1_1)), (c1_2, .inl (g.2 0, 33, .inl f1_2)), (c1_3, .inl (g.2 0, 33, .inl f1_3)), (c1_4, .inl (g.2 0, 16, .inl f1_4)), (c2_, .inr (3, [.int we2, .ref c2_1, .ref c2_2, .ref c2_3, .ref c2_4, .int se2])), (c2_1, .inl (g.2 0, 32, .inl f2_1)), (c2_2, .inl (g.2 0, 33, .inl f2_2)), (c2_3, .inl (g.2 0, 33, .inl f2_3)), (c2_4, .inl (g.2 0, 16, .inl f2_4)), (c3_, .inr (3, [.int we3, .ref c3_1, .ref c3_2, .ref c3_3, .ref c3_4, .int se3])), (c3_1, .inl (g.2 0, 32, .inl f3_1)), (c3_2, .inl (g.2 0, 33, .inl f3_2)), (c3_3, .inl (g.2 0, 33, .inl f3_3)), (c3_4, .inl (g.2 0, 16, .inl f3_4)), (m0, .inr (9, [.int 0, u1, .ref bmw, u3, u4, .int 0, .int 0, .int 0, .int 0, u9, u10, u11, u12, u13, u14, u15, .int 0, u17, u18, u19, u20, u21, u22, u23, u24, u25, u26, u27, u28, u29, u30, u31, u32, u33, u34, u35, u36, u37, u38, u39, u40, u41, u42, u43, u44, u45, u46])), (bmw, .inl (g.2 0, 4, .inl mw))]) (ls : Array Slot) (hl : lv_has ls 4 [(0, .ref b), (1, .ref x0), (2, .ref m0), (3, .int 0)]) : W p l e room_1 s m #[Value.ref b] below meth c H locs 210 203560 (lw_Z below #[Value.ref b] s) (F0 m 215 ls []) := by
  obtain ⟨hx, hb, hr, hml, hown, hts, hX, hbl, hlocks, hgv⟩ := C0
  have hg : ∀ w ∈ zGW, w.before #[Value.ref b] s = true := fun w h => hts w (List.mem_filter.mp h).1
  have hown : s.vm.findClass RL = some m.cls := hown
  have hbA : ¬ A b := fun h => absurd (hA' b h) (Nat.not_le.mpr hbl)
  refine lv_aload_n hx hb dL_law_215 rfl (lv_at hl 1 rfl) ?_
  refine lv_aload_n hx hb dL_law_216 rfl (lv_at hl 0 rfl) ?_
  refine lv_iload_n hx hb dL_law_217 rfl (lv_at hl 3 rfl) ?_
  refine lv_iconst (v := 1) hx hb dL_law_218 (by decide) ?_
  refine lv_iadd hx hb dL_law_219 ?_
  refine lv_topi (fun x1 ex1 => ?_)
  obtain rfl : x1 = 1 := ex1.trans (by decide)
  refine va_sld hx hb hX hbl hbA hS (z_in (by decide : (1 : Int32).toInt = 1) (by omega) (by omega)) dL_law_220 ?_
  refine W.eq (g2 := F0 m 221 ls [.int (xs 1), .ref x0]) rfl ?_
  refine lv_aload_n hx hb dL_law_221 rfl (lv_at hl 0 rfl) ?_
  refine lv_iload_n hx hb dL_law_222 rfl (lv_at hl 3 rfl) ?_
  refine lv_iconst (v := 2) hx hb dL_law_223 (by decide) ?_
  refine lv_iadd hx hb dL_law_224 ?_
  refine lv_topi (fun x2 ex2 => ?_)
  obtain rfl : x2 = 2 := ex2.trans (by decide)
  refine va_sld hx hb hX hbl hbA hS (z_in (by decide : (2 : Int32).toInt = 2) (by omega) (by omega)) dL_law_225 ?_
  refine W.eq (g2 := F0 m 226 ls [.int (xs 2), .int (xs 1), .ref x0]) rfl ?_
  have hPc := hP.sub (ws' := [(x0, .inr (8, [.ref aC, aW, aT, aB, aL, aG, aM, aA, aU, aE, aD, .int 0, .int 0])), (aC, .inl (g.2 4, 4, .inr (.inr (.inr (.inr (zS [some c0_, some c1_, some c2_, some c3_])))))), (c0_, .inr (3, [.int we0, .ref c0_1, .ref c0_2, .ref c0_3, .ref c0_4, .int se0])), (c0_1, .inl (g.2 0, 32, .inl f0_1)), (c0_2, .inl (g.2 0, 33, .inl f0_2)), (c0_3, .inl (g.2 0, 33, .inl f0_3)), (c0_4, .inl (g.2 0, 16, .inl f0_4)), (c1_, .inr (3, [.int we1, .ref c1_1, .ref c1_2, .ref c1_3, .ref c1_4, .int se1])), (c1_1, .inl (g.2 0, 32, .inl f1_1)), (c1_2, .inl (g.2 0, 33, .inl f1_2)), (c1_3, .inl (g.2 0, 33, .inl f1_3)), (c1_4, .inl (g.2 0, 16, .inl f1_4)), (c2_, .inr (3, [.int we2, .ref c2_1, .ref c2_2, .ref c2_3, .ref c2_4, .int se2])), (c2_1, .inl (g.2 0, 32, .inl f2_1)), (c2_2, .inl (g.2 0, 33, .inl f2_2)), (c2_3, .inl (g.2 0, 33, .inl f2_3)), (c2_4, .inl (g.2 0, 16, .inl f2_4)), (c3_, .inr (3, [.int we3, .ref c3_1, .ref c3_2, .ref c3_3, .ref c3_4, .int se3])), (c3_1, .inl (g.2 0, 32, .inl f3_1)), (c3_2, .inl (g.2 0, 33, .inl f3_2)), (c3_3, .inl (g.2 0, 33, .inl f3_3)), (c3_4, .inl (g.2 0, 16, .inl f3_4))]) [0, 1, 2, 3, 4, 5, 6, 7, 8, 9, 10, 11, 12, 13, 14, 15, 16, 17, 18, 19, 20, 21] rfl
  have hDc := hD.sub (ws' := [(x0, .inr (8, [.ref aC, aW, aT, aB, aL, aG, aM, aA, aU, aE, aD, .int 0, .int 0])), (aC, .inl (g.2 4, 4, .inr (.inr (.inr (.inr (zS [some c0_, some c1_, some c2_, some c3_])))))), (c0_, .inr (3, [.int we0, .ref c0_1, .ref c0_2, .ref c0_3, .ref c0_4, .int se0])), (c0_1, .inl (g.2 0, 32, .inl f0_1)), (c0_2, .inl (g.2 0, 33, .inl f0_2)), (c0_3, .inl (g.2 0, 33, .inl f0_3)), (c0_4, .inl (g.2 0, 16, .inl f0_4)), (c1_, .inr (3, [.int we1, .ref c1_1, .ref c1_2, .ref c1_3, .ref c1_4, .int se1])), (c1_1, .inl (g.2 0, 32, .inl f1_1)), (c1_2, .inl (g.2 0, 33, .inl f1_2)), (c1_3, .inl (g.2 0, 33, .inl f1_3)), (c1_4, .inl (g.2 0, 16, .inl f1_4)), (c2_, .inr (3, [.int we2, .ref c2_1, .ref c2_2, .ref c2_3, .ref c2_4, .int se2])), (c2_1, .inl (g.2 0, 32, .inl f2_1)), (c2_2, .inl (g.2 0, 33, .inl f2_2)), (c2_3, .inl (g.2 0, 33, .inl f2_3)), (c2_4, .inl (g.2 0, 16, .inl f2_4)), (c3_, .inr (3, [.int we3, .ref c3_1, .ref c3_2, .ref c3_3, .ref c3_4, .int se3])), (c3_1, .inl (g.2 0, 32, .inl f3_1)), (c3_2, .inl (g.2 0, 33, .inl f3_2)), (c3_3, .inl (g.2 0, 33, .inl f3_3)), (c3_4, .inl (g.2 0, 16, .inl f3_4))]) [0, 1, 2, 3, 4, 5, 6, 7, 8, 9, 10, 11, 12, 13, 14, 15, 16, 17, 18, 19, 20, 21] (by decide) rfl
  have hFc := va_free (wc := [(x0, .inr (8, [.ref aC, aW, aT, aB, aL, aG, aM, aA, aU, aE, aD, .int 0, .int 0])), (aC, .inl (g.2 4, 4, .inr (.inr (.inr (.inr (zS [some c0_, some c1_, some c2_, some c3_])))))), (c0_, .inr (3, [.int we0, .ref c0_1, .ref c0_2, .ref c0_3, .ref c0_4, .int se0])), (c0_1, .inl (g.2 0, 32, .inl f0_1)), (c0_2, .inl (g.2 0, 33, .inl f0_2)), (c0_3, .inl (g.2 0, 33, .inl f0_3)), (c0_4, .inl (g.2 0, 16, .inl f0_4)), (c1_, .inr (3, [.int we1, .ref c1_1, .ref c1_2, .ref c1_3, .ref c1_4, .int se1])), (c1_1, .inl (g.2 0, 32, .inl f1_1)), (c1_2, .inl (g.2 0, 33, .inl f1_2)), (c1_3, .inl (g.2 0, 33, .inl f1_3)), (c1_4, .inl (g.2 0, 16, .inl f1_4)), (c2_, .inr (3, [.int we2, .ref c2_1, .ref c2_2, .ref c2_3, .ref c2_4, .int se2])), (c2_1, .inl (g.2 0, 32, .inl f2_1)), (c2_2, .inl (g.2 0, 33, .inl f2_2)), (c2_3, .inl (g.2 0, 33, .inl f2_3)), (c2_4, .inl (g.2 0, 16, .inl f2_4)), (c3_, .inr (3, [.int we3, .ref c3_1, .ref c3_2, .ref c3_3, .ref c3_4, .int se3])), (c3_1, .inl (g.2 0, 32, .inl f3_1)), (c3_2, .inl (g.2 0, 33, .inl f3_2)), (c3_3, .inl (g.2 0, 33, .inl f3_3)), (c3_4, .inl (g.2 0, 16, .inl f3_4))]) hD hS hA [0, 1, 2, 3, 4, 5, 6, 7, 8, 9, 10, 11, 12, 13, 14, 15, 16, 17, 18, 19, 20, 21] rfl
  refine va_calli (va_runV (As := [.int (xs 1), .int (xs 2)]) (rest := []) ⟨hx, hb, hml, hown, hg⟩ (c_X8_weight l g _ x0 aC (aW : Value) (aT : Value) (aB : Value) (aL : Value) (aG : Value) (aM : Value) (aA : Value) (aU : Value) (aE : Value) (aD : Value) c0_ c0_1 c0_2 c0_3 c0_4 f0_1 f0_2 f0_3 f0_4 we0 se0 c1_ c1_1 c1_2 c1_3 c1_4 f1_1 f1_2 f1_3 f1_4 we1 se1 c2_ c2_1 c2_2 c2_3 c2_4 f2_1 f2_2 f2_3 f2_4 we2 se2 c3_ c3_1 c3_2 c3_3 c3_4 f3_1 f3_2 f3_3 f3_4 we3 se3 (xs 1) (xs 2) ) (cwV 2 hg (z_gV mm_423 mm_424 mm_425 mm_108 mm_426) rfl rfl rfl (by decide +kernel) ⟨Nat.le_of_ble_eq_true rfl, Nat.le_of_ble_eq_true rfl⟩) ⟨(zA.pre [.ref x0, .int (xs 1), .int (xs 2)] hPc hK hDc hN).1, va_recv hK hPc (ci := 8) (q0 := 0) rfl rfl, (zA.pre [.ref x0, .int (xs 1), .int (xs 2)] hPc hK hDc hN).2⟩ rfl rfl hl.1 rfl (lv_room (Nat.le_of_ble_eq_true rfl)) dL_law_226 ⟨Nat.le_of_ble_eq_true rfl, Nat.le_of_ble_eq_true rfl⟩) hS (fun q _ h => hFc q h) hFc (fun r3 _ t H1 locs ht hvm hr3 hB hz1 hk1 hS => ?_)
  obtain ⟨hP1, hD1⟩ := hB
  rw [ht] at hP1
  obtain ⟨hP, hD⟩ := va_join (wr := [(m0, .inr (9, [.int 0, u1, .ref bmw, u3, u4, .int 0, .int 0, .int 0, .int 0, u9, u10, u11, u12, u13, u14, u15, .int 0, u17, u18, u19, u20, u21, u22, u23, u24, u25, u26, u27, u28, u29, u30, u31, u32, u33, u34, u35, u36, u37, u38, u39, u40, u41, u42, u43, u44, u45, u46])), (bmw, .inl (g.2 0, 4, .inl mw))]) (w1 := []) hP hD [0, 1, 2, 3, 4, 5, 6, 7, 8, 9, 10, 11, 12, 13, 14, 15, 16, 17, 18, 19, 20, 21] [22, 23] rfl rfl (by decide) (by decide) hk1 hFc hP1 hD1
  generalize H1 = H at hP hS ⊢
  refine W.widen (k := 210) (n := 203560) (Nat.le_of_ble_eq_true rfl) (Nat.le_of_ble_eq_true rfl) ?_
  have hP : zP g [(m0, .inr (9, [.int 0, u1, .ref bmw, u3, u4, .int 0, .int 0, .int 0, .int 0, u9, u10, u11, u12, u13, u14, u15, .int 0, u17, u18, u19, u20, u21, u22, u23, u24, u25, u26, u27, u28, u29, u30, u31, u32, u33, u34, u35, u36, u37, u38, u39, u40, u41, u42, u43, u44, u45, u46])), (bmw, .inl (g.2 0, 4, .inl mw))] H := hP
  have hD : va_D A [(m0, .inr (9, [.int 0, u1, .ref bmw, u3, u4, .int 0, .int 0, .int 0, .int 0, u9, u10, u11, u12, u13, u14, u15, .int 0, u17, u18, u19, u20, u21, u22, u23, u24, u25, u26, u27, u28, u29, u30, u31, u32, u33, u34, u35, u36, u37, u38, u39, u40, u41, u42, u43, u44, u45, u46])), (bmw, .inl (g.2 0, 4, .inl mw))] := hD
  rcases hr3 with hr3 | hr3
  · skip
    obtain ⟨rfl, h4⟩ := hr3
    have h4 : 0 ≤ (xs 1).toInt ∧ (xs 1).toInt ≤ 3 ∧ (0 ≤ (xs 2).toInt ∧ (xs 2).toInt ≤ 99) := h4
    refine lv_aload_n hx hb dL_law_229 rfl (lv_at hl 2 rfl) ?_
    refine lv_aload_n hx hb dL_law_230 rfl (lv_at hl 0 rfl) ?_
    refine lv_iload_n hx hb dL_law_231 rfl (lv_at hl 3 rfl) ?_
    refine lv_iconst (v := 1) hx hb dL_law_232 (by decide) ?_
    refine lv_iadd hx hb dL_law_233 ?_
    refine lv_topi (fun x5 ex5 => ?_)
    obtain rfl : x5 = 1 := ex5.trans (by decide)
    refine va_sld hx hb hX hbl hbA hS (z_in (by decide : (1 : Int32).toInt = 1) (by omega) (by omega)) dL_law_234 ?_
    refine W.eq (g2 := F0 m 235 ls [.int (xs 1), .ref m0, .int 1]) rfl ?_
    refine lv_aload_n hx hb dL_law_235 rfl (lv_at hl 0 rfl) ?_
    refine lv_iload_n hx hb dL_law_236 rfl (lv_at hl 3 rfl) ?_
    refine lv_iconst (v := 2) hx hb dL_law_237 (by decide) ?_
    refine lv_iadd hx hb dL_law_238 ?_
    refine lv_topi (fun x6 ex6 => ?_)
    obtain rfl : x6 = 2 := ex6.trans (by decide)
    refine va_sld hx hb hX hbl hbA hS (z_in (by decide : (2 : Int32).toInt = 2) (by omega) (by omega)) dL_law_239 ?_
    refine W.eq (g2 := F0 m 240 ls [.int (xs 2), .int (xs 1), .ref m0, .int 1]) rfl ?_
    have hPc := hP.sub (ws' := [(m0, .inr (9, [.int 0, u1, .ref bmw, u3, u4, .int 0, .int 0, .int 0, .int 0, u9, u10, u11, u12, u13, u14, u15, .int 0, u17, u18, u19, u20, u21, u22, u23, u24, u25, u26, u27, u28, u29, u30, u31, u32, u33, u34, u35, u36, u37, u38, u39, u40, u41, u42, u43, u44, u45, u46])), (bmw, .inl (g.2 0, 4, .inl mw))]) [0, 1] rfl
    have hDc := hD.sub (ws' := [(m0, .inr (9, [.int 0, u1, .ref bmw, u3, u4, .int 0, .int 0, .int 0, .int 0, u9, u10, u11, u12, u13, u14, u15, .int 0, u17, u18, u19, u20, u21, u22, u23, u24, u25, u26, u27, u28, u29, u30, u31, u32, u33, u34, u35, u36, u37, u38, u39, u40, u41, u42, u43, u44, u45, u46])), (bmw, .inl (g.2 0, 4, .inl mw))]) [0, 1] (by decide) rfl
    have hFc := va_free (wc := [(m0, .inr (9, [.int 0, u1, .ref bmw, u3, u4, .int 0, .int 0, .int 0, .int 0, u9, u10, u11, u12, u13, u14, u15, .int 0, u17, u18, u19, u20, u21, u22, u23, u24, u25, u26, u27, u28, u29, u30, u31, u32, u33, u34, u35, u36, u37, u38, u39, u40, u41, u42, u43, u44, u45, u46])), (bmw, .inl (g.2 0, 4, .inl mw))]) hD hS hA [0, 1] rfl
    refine va_calli (va_runV (As := [.int (xs 1), .int (xs 2)]) (rest := [.int 1]) ⟨hx, hb, hml, hown, hg⟩ (c_X9_weight l g _ m0 (u1 : Value) bmw mw (u3 : Value) (u4 : Value) (u9 : Value) (u10 : Value) (u11 : Value) (u12 : Value) (u13 : Value) (u14 : Value) (u15 : Value) (u17 : Value) (u18 : Value) (u19 : Value) (u20 : Value) (u21 : Value) (u22 : Value) (u23 : Value) (u24 : Value) (u25 : Value) (u26 : Value) (u27 : Value) (u28 : Value) (u29 : Value) (u30 : Value) (u31 : Value) (u32 : Value) (u33 : Value) (u34 : Value) (u35 : Value) (u36 : Value) (u37 : Value) (u38 : Value) (u39 : Value) (u40 : Value) (u41 : Value) (u42 : Value) (u43 : Value) (u44 : Value) (u45 : Value) (u46 : Value) (xs 1) (xs 2) ) (cwV 2 hg (z_gV mm_1112 mm_1113 mm_1114 mm_117 mm_1115) rfl rfl rfl (by decide +kernel) ⟨Nat.le_of_ble_eq_true rfl, Nat.le_of_ble_eq_true rfl⟩) ⟨(zA.pre [.ref m0, .int (xs 1), .int (xs 2)] hPc hK hDc hN).1, va_recv hK hPc (ci := 9) (q0 := 0) rfl rfl, (zA.pre [.ref m0, .int (xs 1), .int (xs 2)] hPc hK hDc hN).2⟩ rfl rfl hl.1 rfl (lv_room (Nat.le_of_ble_eq_true rfl)) dL_law_240 ⟨Nat.le_of_ble_eq_true rfl, Nat.le_of_ble_eq_true rfl⟩) hS (fun q _ h => hFc q h) hFc (fun r7 _ t H1 locs ht hvm hr7 hB hz1 hk1 hS => ?_)
    obtain ⟨hP1, hD1⟩ := hB
    rw [ht] at hP1
    obtain ⟨hP, hD⟩ := va_join (wr := []) (w1 := []) hP hD [0, 1] [] rfl rfl (by decide) (by decide) hk1 hFc hP1 hD1
    generalize H1 = H at hP hS ⊢
    refine W.widen (k := 210) (n := 203560) (Nat.le_of_ble_eq_true rfl) (Nat.le_of_ble_eq_true rfl) ?_
    have hP : zP g [] H := hP
    have hD : va_D A [] := hD
    rcases hr7 with hr7 | hr7
    · skip
      obtain ⟨rfl, h8⟩ := hr7
      have h8 : 0 ≤ (xs 1).toInt ∧ (xs 1).toInt ≤ 3 ∧ (0 ≤ (xs 2).toInt ∧ (xs 2).toInt ≤ 99) := h8
      refine lv_icmp_eq (tgt := 1533) hx hb dL_law_243 (by decide) (fun c9 => ?_) (fun c9 => ?_)
      · skip
        refine lv_iinc (v := 6) (lv' := [(3, .int 6), (0, .ref b), (1, .ref x0), (2, .ref m0)]) hx hb dL_law_1533 hl (k := 3) rfl (by decide) (by decide) rfl (fun ls hl => ?_)
        refine lv_goto (tgt := 18) hx hb dL_law_1536 (by decide) ?_
        refine lv_iload_n hx hb dL_law_18 rfl (lv_at hl 0 rfl) ?_
        refine lv_aload_n hx hb dL_law_19 rfl (lv_at hl 1 rfl) ?_
        refine va_slen hx hb hX hbl hbA hS dL_law_20 ?_
        refine W.eq (g2 := F0 m 21 ls [.int 6, .int 6]) rfl ?_
        refine lv_bipush (v := 6) hx hb dL_law_21 (by decide) ?_
        refine lv_isub hx hb dL_law_23 ?_
        refine lv_topi (fun x10 ex10 => ?_)
        obtain rfl : x10 = 0 := ex10.trans (by decide)
        refine lv_icmp_gt (tgt := 1539) hx hb dL_law_24 (by decide) (fun c11 => ?_) (fun c11 => ?_)
        · skip
          refine lv_iconst (v := 1) hx hb dL_law_1539 (by decide) ?_
          refine va_forget (fun q hq => hA' _ (hS.2.2 q hq)) ?_
          refine W.widen (k := 600000) (n := 7302250) (Nat.le_of_ble_eq_true rfl) (Nat.le_of_ble_eq_true rfl) ?_
          exact lw_ret hx hb hr hlocks dL_law_1540
        · skip
          exact absurd c11 (by decide)
      · skip
        exact absurd c9 (by decide)
    · skip
      obtain ⟨rfl, h12⟩ := hr7
      have h12 : ¬ (0 ≤ (xs 1).toInt ∧ (xs 1).toInt ≤ 3 ∧ (0 ≤ (xs 2).toInt ∧ (xs 2).toInt ≤ 99)) := h12
      exfalso
      omega
  · skip
    obtain ⟨rfl, h13⟩ := hr3
    have h13 : ¬ (0 ≤ (xs 1).toInt ∧ (xs 1).toInt ≤ 3 ∧ (0 ≤ (xs 2).toInt ∧ (xs 2).toInt ≤ 99)) := h13
    refine lv_aload_n hx hb dL_law_229 rfl (lv_at hl 2 rfl) ?_
    refine lv_aload_n hx hb dL_law_230 rfl (lv_at hl 0 rfl) ?_
    refine lv_iload_n hx hb dL_law_231 rfl (lv_at hl 3 rfl) ?_
    refine lv_iconst (v := 1) hx hb dL_law_232 (by decide) ?_
    refine lv_iadd hx hb dL_law_233 ?_
    refine lv_topi (fun x14 ex14 => ?_)
    obtain rfl : x14 = 1 := ex14.trans (by decide)
    refine va_sld hx hb hX hbl hbA hS (z_in (by decide : (1 : Int32).toInt = 1) (by omega) (by omega)) dL_law_234 ?_
    refine W.eq (g2 := F0 m 235 ls [.int (xs 1), .ref m0, .int 0]) rfl ?_
    refine lv_aload_n hx hb dL_law_235 rfl (lv_at hl 0 rfl) ?_
    refine lv_iload_n hx hb dL_law_236 rfl (lv_at hl 3 rfl) ?_
    refine lv_iconst (v := 2) hx hb dL_law_237 (by decide) ?_
    refine lv_iadd hx hb dL_law_238 ?_
    refine lv_topi (fun x15 ex15 => ?_)
    obtain rfl : x15 = 2 := ex15.trans (by decide)
    refine va_sld hx hb hX hbl hbA hS (z_in (by decide : (2 : Int32).toInt = 2) (by omega) (by omega)) dL_law_239 ?_
    refine W.eq (g2 := F0 m 240 ls [.int (xs 2), .int (xs 1), .ref m0, .int 0]) rfl ?_
    have hPc := hP.sub (ws' := [(m0, .inr (9, [.int 0, u1, .ref bmw, u3, u4, .int 0, .int 0, .int 0, .int 0, u9, u10, u11, u12, u13, u14, u15, .int 0, u17, u18, u19, u20, u21, u22, u23, u24, u25, u26, u27, u28, u29, u30, u31, u32, u33, u34, u35, u36, u37, u38, u39, u40, u41, u42, u43, u44, u45, u46])), (bmw, .inl (g.2 0, 4, .inl mw))]) [0, 1] rfl
    have hDc := hD.sub (ws' := [(m0, .inr (9, [.int 0, u1, .ref bmw, u3, u4, .int 0, .int 0, .int 0, .int 0, u9, u10, u11, u12, u13, u14, u15, .int 0, u17, u18, u19, u20, u21, u22, u23, u24, u25, u26, u27, u28, u29, u30, u31, u32, u33, u34, u35, u36, u37, u38, u39, u40, u41, u42, u43, u44, u45, u46])), (bmw, .inl (g.2 0, 4, .inl mw))]) [0, 1] (by decide) rfl
    have hFc := va_free (wc := [(m0, .inr (9, [.int 0, u1, .ref bmw, u3, u4, .int 0, .int 0, .int 0, .int 0, u9, u10, u11, u12, u13, u14, u15, .int 0, u17, u18, u19, u20, u21, u22, u23, u24, u25, u26, u27, u28, u29, u30, u31, u32, u33, u34, u35, u36, u37, u38, u39, u40, u41, u42, u43, u44, u45, u46])), (bmw, .inl (g.2 0, 4, .inl mw))]) hD hS hA [0, 1] rfl
    refine va_calli (va_runV (As := [.int (xs 1), .int (xs 2)]) (rest := [.int 0]) ⟨hx, hb, hml, hown, hg⟩ (c_X9_weight l g _ m0 (u1 : Value) bmw mw (u3 : Value) (u4 : Value) (u9 : Value) (u10 : Value) (u11 : Value) (u12 : Value) (u13 : Value) (u14 : Value) (u15 : Value) (u17 : Value) (u18 : Value) (u19 : Value) (u20 : Value) (u21 : Value) (u22 : Value) (u23 : Value) (u24 : Value) (u25 : Value) (u26 : Value) (u27 : Value) (u28 : Value) (u29 : Value) (u30 : Value) (u31 : Value) (u32 : Value) (u33 : Value) (u34 : Value) (u35 : Value) (u36 : Value) (u37 : Value) (u38 : Value) (u39 : Value) (u40 : Value) (u41 : Value) (u42 : Value) (u43 : Value) (u44 : Value) (u45 : Value) (u46 : Value) (xs 1) (xs 2) ) (cwV 2 hg (z_gV mm_1112 mm_1113 mm_1114 mm_117 mm_1115) rfl rfl rfl (by decide +kernel) ⟨Nat.le_of_ble_eq_true rfl, Nat.le_of_ble_eq_true rfl⟩) ⟨(zA.pre [.ref m0, .int (xs 1), .int (xs 2)] hPc hK hDc hN).1, va_recv hK hPc (ci := 9) (q0 := 0) rfl rfl, (zA.pre [.ref m0, .int (xs 1), .int (xs 2)] hPc hK hDc hN).2⟩ rfl rfl hl.1 rfl (lv_room (Nat.le_of_ble_eq_true rfl)) dL_law_240 ⟨Nat.le_of_ble_eq_true rfl, Nat.le_of_ble_eq_true rfl⟩) hS (fun q _ h => hFc q h) hFc (fun r16 _ t H1 locs ht hvm hr16 hB hz1 hk1 hS => ?_)
    obtain ⟨hP1, hD1⟩ := hB
    rw [ht] at hP1
    obtain ⟨hP, hD⟩ := va_join (wr := []) (w1 := []) hP hD [0, 1] [] rfl rfl (by decide) (by decide) hk1 hFc hP1 hD1
    generalize H1 = H at hP hS ⊢
    refine W.widen (k := 210) (n := 203560) (Nat.le_of_ble_eq_true rfl) (Nat.le_of_ble_eq_true rfl) ?_
    have hP : zP g [] H := hP
    have hD : va_D A [] := hD
    rcases hr16 with hr16 | hr16
    · skip
      obtain ⟨rfl, h17⟩ := hr16
      have h17 : 0 ≤ (xs 1).toInt ∧ (xs 1).toInt ≤ 3 ∧ (0 ≤ (xs 2).toInt ∧ (xs 2).toInt ≤ 99) := h17
      exfalso
      omega
    · skip
      obtain ⟨rfl, h18⟩ := hr16
      have h18 : ¬ (0 ≤ (xs 1).toInt ∧ (xs 1).toInt ≤ 3 ∧ (0 ≤ (xs 2).toInt ∧ (xs 2).toInt ≤ 99)) := h18
      refine lv_icmp_eq (tgt := 1533) hx hb dL_law_243 (by decide) (fun c19 => ?_) (fun c19 => ?_)
      · skip
        refine lv_iinc (v := 6) (lv' := [(3, .int 6), (0, .ref b), (1, .ref x0), (2, .ref m0)]) hx hb dL_law_1533 hl (k := 3) rfl (by decide) (by decide) rfl (fun ls hl => ?_)
        refine lv_goto (tgt := 18) hx hb dL_law_1536 (by decide) ?_
        refine lv_iload_n hx hb dL_law_18 rfl (lv_at hl 0 rfl) ?_
        refine lv_aload_n hx hb dL_law_19 rfl (lv_at hl 1 rfl) ?_
        refine va_slen hx hb hX hbl hbA hS dL_law_20 ?_
        refine W.eq (g2 := F0 m 21 ls [.int 6, .int 6]) rfl ?_
        refine lv_bipush (v := 6) hx hb dL_law_21 (by decide) ?_
        refine lv_isub hx hb dL_law_23 ?_
        refine lv_topi (fun x20 ex20 => ?_)
        obtain rfl : x20 = 0 := ex20.trans (by decide)
        refine lv_icmp_gt (tgt := 1539) hx hb dL_law_24 (by decide) (fun c21 => ?_) (fun c21 => ?_)
        · skip
          refine lv_iconst (v := 1) hx hb dL_law_1539 (by decide) ?_
          refine va_forget (fun q hq => hA' _ (hS.2.2 q hq)) ?_
          refine W.widen (k := 600000) (n := 7302250) (Nat.le_of_ble_eq_true rfl) (Nat.le_of_ble_eq_true rfl) ?_
          exact lw_ret hx hb hr hlocks dL_law_1540
        · skip
          exact absurd c21 (by decide)
      · skip
        exact absurd c19 (by decide)

set_option maxHeartbeats 4000000 in
set_option maxRecDepth 100000 in
theorem op_person {p : Program} {e : Env} {s : State} {m : MethodId} {below : List Frame} {meth : Method} {c : Code} (l : Launch) {b : Nat} {xs : Nat → Int32} (C0 : lw_At p s m meth c b 6 xs) (g : zG) (hK : zK g s) (hN : zN s) (x0 : Nat) (aC : Nat) (aW : Nat) (aT : Value) (aB : Value) (aL : Value) (aG : Nat) (aM : Value) (aA : Value) (aU : Value) (aE : Nat) (aD : Value) (c0_ : Nat) (c0_1 : Nat) (c0_2 : Nat) (c0_3 : Nat) (c0_4 : Nat) (f0_1 : Nat → Int32) (f0_2 : Nat → Int32) (f0_3 : Nat → Int32) (f0_4 : Nat → Int32) (we0 : Int32) (se0 : Int32) (c1_ : Nat) (c1_1 : Nat) (c1_2 : Nat) (c1_3 : Nat) (c1_4 : Nat) (f1_1 : Nat → Int32) (f1_2 : Nat → Int32) (f1_3 : Nat → Int32) (f1_4 : Nat → Int32) (we1 : Int32) (se1 : Int32) (c2_ : Nat) (c2_1 : Nat) (c2_2 : Nat) (c2_3 : Nat) (c2_4 : Nat) (f2_1 : Nat → Int32) (f2_2 : Nat → Int32) (f2_3 : Nat → Int32) (f2_4 : Nat → Int32) (we2 : Int32) (se2 : Int32) (c3_ : Nat) (c3_1 : Nat) (c3_2 : Nat) (c3_3 : Nat) (c3_4 : Nat) (f3_1 : Nat → Int32) (f3_2 : Nat → Int32) (f3_3 : Nat → Int32) (f3_4 : Nat → Int32) (we3 : Int32) (se3 : Int32) (fw : Nat → Int32) (fe : Nat → Int32) (g0_ : Nat) (g0v1 : Value) (g0v2 : Value) (g0v3 : Value) (g0v4 : Value) (g0v5 : Value) (g0v6 : Value) (g0v7 : Value) (g0v8 : Value) (g0v9 : Value) (g0v10 : Value) (g1_ : Nat) (g1v1 : Value) (g1v2 : Value) (g1v3 : Value) (g1v4 : Value) (g1v5 : Value) (g1v6 : Value) (g1v7 : Value) (g1v8 : Value) (g1v9 : Value) (g1v10 : Value) (g2_ : Nat) (g2v1 : Value) (g2v2 : Value) (g2v3 : Value) (g2v4 : Value) (g2v5 : Value) (g2v6 : Value) (g2v7 : Value) (g2v8 : Value) (g2v9 : Value) (g2v10 : Value) (g3_ : Nat) (g3v1 : Value) (g3v2 : Value) (g3v3 : Value) (g3v4 : Value) (g3v5 : Value) (g3v6 : Value) (g3v7 : Value) (g3v8 : Value) (g3v9 : Value) (g3v10 : Value) (g4_ : Nat) (g4v1 : Value) (g4v2 : Value) (g4v3 : Value) (g4v4 : Value) (g4v5 : Value) (g4v6 : Value) (g4v7 : Value) (g4v8 : Value) (g4v9 : Value) (g4v10 : Value) (g5_ : Nat) (g5v1 : Value) (g5v2 : Value) (g5v3 : Value) (g5v4 : Value) (g5v5 : Value) (g5v6 : Value) (g5v7 : Value) (g5v8 : Value) (g5v9 : Value) (g5v10 : Value) (g6_ : Nat) (g6v1 : Value) (g6v2 : Value) (g6v3 : Value) (g6v4 : Value) (g6v5 : Value) (g6v6 : Value) (g6v7 : Value) (g6v8 : Value) (g6v9 : Value) (g6v10 : Value) (g7_ : Nat) (g7v1 : Value) (g7v2 : Value) (g7v3 : Value) (g7v4 : Value) (g7v5 : Value) (g7v6 : Value) (g7v7 : Value) (g7v8 : Value) (g7v9 : Value) (g7v10 : Value) (m0 : Nat) (u1 : Value) (u2 : Value) (bmv : Nat) (mv : Nat → Int32) (u4 : Value) (u9 : Value) (u10 : Value) (u11 : Value) (u12 : Value) (u13 : Value) (u14 : Value) (u15 : Value) (u17 : Value) (u18 : Value) (u19 : Value) (u20 : Value) (u21 : Value) (u22 : Value) (u23 : Value) (u24 : Value) (u25 : Value) (u26 : Value) (u27 : Value) (u28 : Value) (u29 : Value) (u30 : Value) (u31 : Value) (u32 : Value) (u33 : Value) (u34 : Value) (u35 : Value) (u36 : Value) (u37 : Value) (u38 : Value) (u39 : Value) (u40 : Value) (u41 : Value) (u42 : Value) (u43 : Value) (u44 : Value) (u45 : Value) (u46 : Value) {A : Nat → Prop} (hA : ∀ q, s.heap.size ≤ q → A q) (hA' : ∀ q, A q → s.heap.size ≤ q) (H : Heap) (locs : List Loc) (hS : va_S A s.heap H locs) (hP : zP g [(x0, .inr (8, [.ref aC, .ref aW, aT, aB, aL, .ref aG, aM, aA, aU, .ref aE, aD, .int 0, .int 0])), (aC, .inl (g.2 4, 4, .inr (.inr (.inr (.inr (zS [some c0_, some c1_, some c2_, some c3_])))))), (c0_, .inr (3, [.int we0, .ref c0_1, .ref c0_2, .ref c0_3, .ref c0_4, .int se0])), (c0_1, .inl (g.2 0, 32, .inl f0_1)), (c0_2, .inl (g.2 0, 33, .inl f0_2)), (c0_3, .inl (g.2 0, 33, .inl f0_3)), (c0_4, .inl (g.2 0, 16, .inl f0_4)), (c1_, .inr (3, [.int we1, .ref c1_1, .ref c1_2, .ref c1_3, .ref c1_4, .int se1])), (c1_1, .inl (g.2 0, 32, .inl f1_1)), (c1_2, .inl (g.2 0, 33, .inl f1_2)), (c1_3, .inl (g.2 0, 33, .inl f1_3)), (c1_4, .inl (g.2 0, 16, .inl f1_4)), (c2_, .inr (3, [.int we2, .ref c2_1, .ref c2_2, .ref c2_3, .ref c2_4, .int se2])), (c2_1, .inl (g.2 0, 32, .inl f2_1)), (c2_2, .inl (g.2 0, 33, .inl f2_2)), (c2_3, .inl (g.2 0, 33, .inl f2_3)), (c2_4, .inl (g.2 0, 16, .inl f2_4)), (c3_, .inr (3, [.int we3, .ref c3_1, .ref c3_2, .ref c3_3, .ref c3_4, .int se3])), (c3_1, .inl (g.2 0, 32, .inl f3_1)), (c3_2, .inl (g.2 0, 33, .inl f3_2)), (c3_3, .inl (g.2 0, 33, .inl f3_3)), (c3_4, .inl (g.2 0, 16, .inl f3_4)), (aW, .inl (g.2 0, 16, .inl fw)), (aE, .inl (g.2 0, 7, .inl fe)), (aG, .inl (g.2 6, 8, .inr (.inr (.inr (.inr (zS [some g0_, some g1_, some g2_, some g3_, some g4_, some g5_, some g6_, some g7_])))))), (g0_, .inr (4, [.int 0, g0v1, g0v2, g0v3, g0v4, g0v5, g0v6, g0v7, g0v8, g0v9, g0v10])), (g1_, .inr (4, [.int 0, g1v1, g1v2, g1v3, g1v4, g1v5, g1v6, g1v7, g1v8, g1v9, g1v10])), (g2_, .inr (4, [.int 0, g2v1, g2v2, g2v3, g2v4, g2v5, g2v6, g2v7, g2v8, g2v9, g2v10])), (g3_, .inr (4, [.int 0, g3v1, g3v2, g3v3, g3v4, g3v5, g3v6, g3v7, g3v8, g3v9, g3v10])), (g4_, .inr (4, [.int 0, g4v1, g4v2, g4v3, g4v4, g4v5, g4v6, g4v7, g4v8, g4v9, g4v10])), (g5_, .inr (4, [.int 0, g5v1, g5v2, g5v3, g5v4, g5v5, g5v6, g5v7, g5v8, g5v9, g5v10])), (g6_, .inr (4, [.int 0, g6v1, g6v2, g6v3, g6v4, g6v5, g6v6, g6v7, g6v8, g6v9, g6v10])), (g7_, .inr (4, [.int 0, g7v1, g7v2, g7v3, g7v4, g7v5, g7v6, g7v7, g7v8, g7v9, g7v10])), (m0, .inr (9, [.int 0, u1, u2, .ref bmv, u4, .int 0, .int 0, .int 0, .int 0, u9, u10, u11, u12, u13, u14, u15, .int 0, u17, u18, u19, u20, u21, u22, u23, u24, u25, u26, u27, u28, u29, u30, u31, u32, u33, u34, u35, u36, u37, u38, u39, u40, u41, u42, u43, u44, u45, u46])), (bmv, .inl (g.2 0, 64, .inl mv))] H) (hD : va_D A [(x0, .inr (8, [.ref aC, .ref aW, aT, aB, aL, .ref aG, aM, aA, aU, .ref aE, aD, .int 0, .int 0])), (aC, .inl (g.2 4, 4, .inr (.inr (.inr (.inr (zS [some c0_, some c1_, some c2_, some c3_])))))), (c0_, .inr (3, [.int we0, .ref c0_1, .ref c0_2, .ref c0_3, .ref c0_4, .int se0])), (c0_1, .inl (g.2 0, 32, .inl f0_1)), (c0_2, .inl (g.2 0, 33, .inl f0_2)), (c0_3, .inl (g.2 0, 33, .inl f0_3)), (c0_4, .inl (g.2 0, 16, .inl f0_4)), (c1_, .inr (3, [.int we1, .ref c1_1, .ref c1_2, .ref c1_3, .ref c1_4, .int se1])), (c1_1, .inl (g.2 0, 32, .inl f1_1)), (c1_2, .inl (g.2 0, 33, .inl f1_2)), (c1_3, .inl (g.2 0, 33, .inl f1_3)), (c1_4, .inl (g.2 0, 16, .inl f1_4)), (c2_, .inr (3, [.int we2, .ref c2_1, .ref c2_2, .ref c2_3, .ref c2_4, .int se2])), (c2_1, .inl (g.2 0, 32, .inl f2_1)), (c2_2, .inl (g.2 0, 33, .inl f2_2)), (c2_3, .inl (g.2 0, 33, .inl f2_3)), (c2_4, .inl (g.2 0, 16, .inl f2_4)), (c3_, .inr (3, [.int we3, .ref c3_1, .ref c3_2, .ref c3_3, .ref c3_4, .int se3])), (c3_1, .inl (g.2 0, 32, .inl f3_1)), (c3_2, .inl (g.2 0, 33, .inl f3_2)), (c3_3, .inl (g.2 0, 33, .inl f3_3)), (c3_4, .inl (g.2 0, 16, .inl f3_4)), (aW, .inl (g.2 0, 16, .inl fw)), (aE, .inl (g.2 0, 7, .inl fe)), (aG, .inl (g.2 6, 8, .inr (.inr (.inr (.inr (zS [some g0_, some g1_, some g2_, some g3_, some g4_, some g5_, some g6_, some g7_])))))), (g0_, .inr (4, [.int 0, g0v1, g0v2, g0v3, g0v4, g0v5, g0v6, g0v7, g0v8, g0v9, g0v10])), (g1_, .inr (4, [.int 0, g1v1, g1v2, g1v3, g1v4, g1v5, g1v6, g1v7, g1v8, g1v9, g1v10])), (g2_, .inr (4, [.int 0, g2v1, g2v2, g2v3, g2v4, g2v5, g2v6, g2v7, g2v8, g2v9, g2v10])), (g3_, .inr (4, [.int 0, g3v1, g3v2, g3v3, g3v4, g3v5, g3v6, g3v7, g3v8, g3v9, g3v10])), (g4_, .inr (4, [.int 0, g4v1, g4v2, g4v3, g4v4, g4v5, g4v6, g4v7, g4v8, g4v9, g4v10])), (g5_, .inr (4, [.int 0, g5v1, g5v2, g5v3, g5v4, g5v5, g5v6, g5v7, g5v8, g5v9, g5v10])), (g6_, .inr (4, [.int 0, g6v1, g6v2, g6v3, g6v4, g6v5, g6v6, g6v7, g6v8, g6v9, g6v10])), (g7_, .inr (4, [.int 0, g7v1, g7v2, g7v3, g7v4, g7v5, g7v6, g7v7, g7v8, g7v9, g7v10])), (m0, .inr (9, [.int 0, u1, u2, .ref bmv, u4, .int 0, .int 0, .int 0, .int 0, u9, u10, u11, u12, u13, u14, u15, .int 0, u17, u18, u19, u20, u21, u22, u23, u24, u25, u26, u27, u28, u29, u30, u31, u32, u33, u34, u35, u36, u37, u38, u39, u40, u41, u42, u43, u44, u45, u46])), (bmv, .inl (g.2 0, 64, .inl mv))]) (ls : Array Slot) (hl : lv_has ls 4 [(0, .ref b), (1, .ref x0), (2, .ref m0), (3, .int 0)]) : W p l e room_1 s m #[Value.ref b] below meth c H locs 210 203560 (lw_Z below #[Value.ref b] s) (F0 m 248 ls []) := by
  obtain ⟨hx, hb, hr, hml, hown, hts, hX, hbl, hlocks, hgv⟩ := C0
  have hg : ∀ w ∈ zGW, w.before #[Value.ref b] s = true := fun w h => hts w (List.mem_filter.mp h).1
  have hown : s.vm.findClass RL = some m.cls := hown
  have hbA : ¬ A b := fun h => absurd (hA' b h) (Nat.not_le.mpr hbl)
  refine lv_aload_n hx hb dL_law_248 rfl (lv_at hl 1 rfl) ?_
  refine lv_aload_n hx hb dL_law_249 rfl (lv_at hl 0 rfl) ?_
  refine lv_iload_n hx hb dL_law_250 rfl (lv_at hl 3 rfl) ?_
  refine lv_iconst (v := 1) hx hb dL_law_251 (by decide) ?_
  refine lv_iadd hx hb dL_law_252 ?_
  refine lv_topi (fun x1 ex1 => ?_)
  obtain rfl : x1 = 1 := ex1.trans (by decide)
  refine va_sld hx hb hX hbl hbA hS (z_in (by decide : (1 : Int32).toInt = 1) (by omega) (by omega)) dL_law_253 ?_
  refine W.eq (g2 := F0 m 254 ls [.int (xs 1), .ref x0]) rfl ?_
  refine lv_aload_n hx hb dL_law_254 rfl (lv_at hl 0 rfl) ?_
  refine lv_iload_n hx hb dL_law_255 rfl (lv_at hl 3 rfl) ?_
  refine lv_iconst (v := 2) hx hb dL_law_256 (by decide) ?_
  refine lv_iadd hx hb dL_law_257 ?_
  refine lv_topi (fun x2 ex2 => ?_)
  obtain rfl : x2 = 2 := ex2.trans (by decide)
  refine va_sld hx hb hX hbl hbA hS (z_in (by decide : (2 : Int32).toInt = 2) (by omega) (by omega)) dL_law_258 ?_
  refine W.eq (g2 := F0 m 259 ls [.int (xs 2), .int (xs 1), .ref x0]) rfl ?_
  refine lv_aload_n hx hb dL_law_259 rfl (lv_at hl 0 rfl) ?_
  refine lv_iload_n hx hb dL_law_260 rfl (lv_at hl 3 rfl) ?_
  refine lv_iconst (v := 3) hx hb dL_law_261 (by decide) ?_
  refine lv_iadd hx hb dL_law_262 ?_
  refine lv_topi (fun x3 ex3 => ?_)
  obtain rfl : x3 = 3 := ex3.trans (by decide)
  refine va_sld hx hb hX hbl hbA hS (z_in (by decide : (3 : Int32).toInt = 3) (by omega) (by omega)) dL_law_263 ?_
  refine W.eq (g2 := F0 m 264 ls [.int (xs 3), .int (xs 2), .int (xs 1), .ref x0]) rfl ?_
  refine lv_aload_n hx hb dL_law_264 rfl (lv_at hl 0 rfl) ?_
  refine lv_iload_n hx hb dL_law_265 rfl (lv_at hl 3 rfl) ?_
  refine lv_iconst (v := 4) hx hb dL_law_266 (by decide) ?_
  refine lv_iadd hx hb dL_law_267 ?_
  refine lv_topi (fun x4 ex4 => ?_)
  obtain rfl : x4 = 4 := ex4.trans (by decide)
  refine va_sld hx hb hX hbl hbA hS (z_in (by decide : (4 : Int32).toInt = 4) (by omega) (by omega)) dL_law_268 ?_
  refine W.eq (g2 := F0 m 269 ls [.int (xs 4), .int (xs 3), .int (xs 2), .int (xs 1), .ref x0]) rfl ?_
  have hPc := hP.sub (ws' := [(x0, .inr (8, [.ref aC, .ref aW, aT, aB, aL, .ref aG, aM, aA, aU, .ref aE, aD, .int 0, .int 0])), (aC, .inl (g.2 4, 4, .inr (.inr (.inr (.inr (zS [some c0_, some c1_, some c2_, some c3_])))))), (c0_, .inr (3, [.int we0, .ref c0_1, .ref c0_2, .ref c0_3, .ref c0_4, .int se0])), (c0_1, .inl (g.2 0, 32, .inl f0_1)), (c0_2, .inl (g.2 0, 33, .inl f0_2)), (c0_3, .inl (g.2 0, 33, .inl f0_3)), (c0_4, .inl (g.2 0, 16, .inl f0_4)), (c1_, .inr (3, [.int we1, .ref c1_1, .ref c1_2, .ref c1_3, .ref c1_4, .int se1])), (c1_1, .inl (g.2 0, 32, .inl f1_1)), (c1_2, .inl (g.2 0, 33, .inl f1_2)), (c1_3, .inl (g.2 0, 33, .inl f1_3)), (c1_4, .inl (g.2 0, 16, .inl f1_4)), (c2_, .inr (3, [.int we2, .ref c2_1, .ref c2_2, .ref c2_3, .ref c2_4, .int se2])), (c2_1, .inl (g.2 0, 32, .inl f2_1)), (c2_2, .inl (g.2 0, 33, .inl f2_2)), (c2_3, .inl (g.2 0, 33, .inl f2_3)), (c2_4, .inl (g.2 0, 16, .inl f2_4)), (c3_, .inr (3, [.int we3, .ref c3_1, .ref c3_2, .ref c3_3, .ref c3_4, .int se3])), (c3_1, .inl (g.2 0, 32, .inl f3_1)), (c3_2, .inl (g.2 0, 33, .inl f3_2)), (c3_3, .inl (g.2 0, 33, .inl f3_3)), (c3_4, .inl (g.2 0, 16, .inl f3_4)), (aW, .inl (g.2 0, 16, .inl fw)), (aE, .inl (g.2 0, 7, .inl fe)), (aG, .inl (g.2 6, 8, .inr (.inr (.inr (.inr (zS [some g0_, some g1_, some g2_, some g3_, some g4_, some g5_, some g6_, some g7_])))))), (g0_, .inr (4, [.int 0, g0v1, g0v2, g0v3, g0v4, g0v5, g0v6, g0v7, g0v8, g0v9, g0v10])), (g1_, .inr (4, [.int 0, g1v1, g1v2, g1v3, g1v4, g1v5, g1v6, g1v7, g1v8, g1v9, g1v10])), (g2_, .inr (4, [.int 0, g2v1, g2v2, g2v3, g2v4, g2v5, g2v6, g2v7, g2v8, g2v9, g2v10])), (g3_, .inr (4, [.int 0, g3v1, g3v2, g3v3, g3v4, g3v5, g3v6, g3v7, g3v8, g3v9, g3v10])), (g4_, .inr (4, [.int 0, g4v1, g4v2, g4v3, g4v4, g4v5, g4v6, g4v7, g4v8, g4v9, g4v10])), (g5_, .inr (4, [.int 0, g5v1, g5v2, g5v3, g5v4, g5v5, g5v6, g5v7, g5v8, g5v9, g5v10])), (g6_, .inr (4, [.int 0, g6v1, g6v2, g6v3, g6v4, g6v5, g6v6, g6v7, g6v8, g6v9, g6v10])), (g7_, .inr (4, [.int 0, g7v1, g7v2, g7v3, g7v4, g7v5, g7v6, g7v7, g7v8, g7v9, g7v10]))]) [0, 1, 2, 3, 4, 5, 6, 7, 8, 9, 10, 11, 12, 13, 14, 15, 16, 17, 18, 19, 20, 21, 22, 23, 24, 25, 26, 27, 28, 29, 30, 31, 32] rfl
  have hDc := hD.sub (ws' := [(x0, .inr (8, [.ref aC, .ref aW, aT, aB, aL, .ref aG, aM, aA, aU, .ref aE, aD, .int 0, .int 0])), (aC, .inl (g.2 4, 4, .inr (.inr (.inr (.inr (zS [some c0_, some c1_, some c2_, some c3_])))))), (c0_, .inr (3, [.int we0, .ref c0_1, .ref c0_2, .ref c0_3, .ref c0_4, .int se0])), (c0_1, .inl (g.2 0, 32, .inl f0_1)), (c0_2, .inl (g.2 0, 33, .inl f0_2)), (c0_3, .inl (g.2 0, 33, .inl f0_3)), (c0_4, .inl (g.2 0, 16, .inl f0_4)), (c1_, .inr (3, [.int we1, .ref c1_1, .ref c1_2, .ref c1_3, .ref c1_4, .int se1])), (c1_1, .inl (g.2 0, 32, .inl f1_1)), (c1_2, .inl (g.2 0, 33, .inl f1_2)), (c1_3, .inl (g.2 0, 33, .inl f1_3)), (c1_4, .inl (g.2 0, 16, .inl f1_4)), (c2_, .inr (3, [.int we2, .ref c2_1, .ref c2_2, .ref c2_3, .ref c2_4, .int se2])), (c2_1, .inl (g.2 0, 32, .inl f2_1)), (c2_2, .inl (g.2 0, 33, .inl f2_2)), (c2_3, .inl (g.2 0, 33, .inl f2_3)), (c2_4, .inl (g.2 0, 16, .inl f2_4)), (c3_, .inr (3, [.int we3, .ref c3_1, .ref c3_2, .ref c3_3, .ref c3_4, .int se3])), (c3_1, .inl (g.2 0, 32, .inl f3_1)), (c3_2, .inl (g.2 0, 33, .inl f3_2)), (c3_3, .inl (g.2 0, 33, .inl f3_3)), (c3_4, .inl (g.2 0, 16, .inl f3_4)), (aW, .inl (g.2 0, 16, .inl fw)), (aE, .inl (g.2 0, 7, .inl fe)), (aG, .inl (g.2 6, 8, .inr (.inr (.inr (.inr (zS [some g0_, some g1_, some g2_, some g3_, some g4_, some g5_, some g6_, some g7_])))))), (g0_, .inr (4, [.int 0, g0v1, g0v2, g0v3, g0v4, g0v5, g0v6, g0v7, g0v8, g0v9, g0v10])), (g1_, .inr (4, [.int 0, g1v1, g1v2, g1v3, g1v4, g1v5, g1v6, g1v7, g1v8, g1v9, g1v10])), (g2_, .inr (4, [.int 0, g2v1, g2v2, g2v3, g2v4, g2v5, g2v6, g2v7, g2v8, g2v9, g2v10])), (g3_, .inr (4, [.int 0, g3v1, g3v2, g3v3, g3v4, g3v5, g3v6, g3v7, g3v8, g3v9, g3v10])), (g4_, .inr (4, [.int 0, g4v1, g4v2, g4v3, g4v4, g4v5, g4v6, g4v7, g4v8, g4v9, g4v10])), (g5_, .inr (4, [.int 0, g5v1, g5v2, g5v3, g5v4, g5v5, g5v6, g5v7, g5v8, g5v9, g5v10])), (g6_, .inr (4, [.int 0, g6v1, g6v2, g6v3, g6v4, g6v5, g6v6, g6v7, g6v8, g6v9, g6v10])), (g7_, .inr (4, [.int 0, g7v1, g7v2, g7v3, g7v4, g7v5, g7v6, g7v7, g7v8, g7v9, g7v10]))]) [0, 1, 2, 3, 4, 5, 6, 7, 8, 9, 10, 11, 12, 13, 14, 15, 16, 17, 18, 19, 20, 21, 22, 23, 24, 25, 26, 27, 28, 29, 30, 31, 32] (by decide) rfl
  have hFc := va_free (wc := [(x0, .inr (8, [.ref aC, .ref aW, aT, aB, aL, .ref aG, aM, aA, aU, .ref aE, aD, .int 0, .int 0])), (aC, .inl (g.2 4, 4, .inr (.inr (.inr (.inr (zS [some c0_, some c1_, some c2_, some c3_])))))), (c0_, .inr (3, [.int we0, .ref c0_1, .ref c0_2, .ref c0_3, .ref c0_4, .int se0])), (c0_1, .inl (g.2 0, 32, .inl f0_1)), (c0_2, .inl (g.2 0, 33, .inl f0_2)), (c0_3, .inl (g.2 0, 33, .inl f0_3)), (c0_4, .inl (g.2 0, 16, .inl f0_4)), (c1_, .inr (3, [.int we1, .ref c1_1, .ref c1_2, .ref c1_3, .ref c1_4, .int se1])), (c1_1, .inl (g.2 0, 32, .inl f1_1)), (c1_2, .inl (g.2 0, 33, .inl f1_2)), (c1_3, .inl (g.2 0, 33, .inl f1_3)), (c1_4, .inl (g.2 0, 16, .inl f1_4)), (c2_, .inr (3, [.int we2, .ref c2_1, .ref c2_2, .ref c2_3, .ref c2_4, .int se2])), (c2_1, .inl (g.2 0, 32, .inl f2_1)), (c2_2, .inl (g.2 0, 33, .inl f2_2)), (c2_3, .inl (g.2 0, 33, .inl f2_3)), (c2_4, .inl (g.2 0, 16, .inl f2_4)), (c3_, .inr (3, [.int we3, .ref c3_1, .ref c3_2, .ref c3_3, .ref c3_4, .int se3])), (c3_1, .inl (g.2 0, 32, .inl f3_1)), (c3_2, .inl (g.2 0, 33, .inl f3_2)), (c3_3, .inl (g.2 0, 33, .inl f3_3)), (c3_4, .inl (g.2 0, 16, .inl f3_4)), (aW, .inl (g.2 0, 16, .inl fw)), (aE, .inl (g.2 0, 7, .inl fe)), (aG, .inl (g.2 6, 8, .inr (.inr (.inr (.inr (zS [some g0_, some g1_, some g2_, some g3_, some g4_, some g5_, some g6_, some g7_])))))), (g0_, .inr (4, [.int 0, g0v1, g0v2, g0v3, g0v4, g0v5, g0v6, g0v7, g0v8, g0v9, g0v10])), (g1_, .inr (4, [.int 0, g1v1, g1v2, g1v3, g1v4, g1v5, g1v6, g1v7, g1v8, g1v9, g1v10])), (g2_, .inr (4, [.int 0, g2v1, g2v2, g2v3, g2v4, g2v5, g2v6, g2v7, g2v8, g2v9, g2v10])), (g3_, .inr (4, [.int 0, g3v1, g3v2, g3v3, g3v4, g3v5, g3v6, g3v7, g3v8, g3v9, g3v10])), (g4_, .inr (4, [.int 0, g4v1, g4v2, g4v3, g4v4, g4v5, g4v6, g4v7, g4v8, g4v9, g4v10])), (g5_, .inr (4, [.int 0, g5v1, g5v2, g5v3, g5v4, g5v5, g5v6, g5v7, g5v8, g5v9, g5v10])), (g6_, .inr (4, [.int 0, g6v1, g6v2, g6v3, g6v4, g6v5, g6v6, g6v7, g6v8, g6v9, g6v10])), (g7_, .inr (4, [.int 0, g7v1, g7v2, g7v3, g7v4, g7v5, g7v6, g7v7, g7v8, g7v9, g7v10]))]) hD hS hA [0, 1, 2, 3, 4, 5, 6, 7, 8, 9, 10, 11, 12, 13, 14, 15, 16, 17, 18, 19, 20, 21, 22, 23, 24, 25, 26, 27, 28, 29, 30, 31, 32] rfl
  refine va_calli (va_runV (As := [.int (xs 1), .int (xs 2), .int (xs 3), .int (xs 4)]) (rest := []) ⟨hx, hb, hml, hown, hg⟩ (c_X8_person l g _ x0 aC aW (aT : Value) (aB : Value) (aL : Value) aG (aM : Value) (aA : Value) (aU : Value) aE (aD : Value) c0_ c0_1 c0_2 c0_3 c0_4 f0_1 f0_2 f0_3 f0_4 we0 se0 c1_ c1_1 c1_2 c1_3 c1_4 f1_1 f1_2 f1_3 f1_4 we1 se1 c2_ c2_1 c2_2 c2_3 c2_4 f2_1 f2_2 f2_3 f2_4 we2 se2 c3_ c3_1 c3_2 c3_3 c3_4 f3_1 f3_2 f3_3 f3_4 we3 se3 fw fe g0_ (g0v1 : Value) (g0v2 : Value) (g0v3 : Value) (g0v4 : Value) (g0v5 : Value) (g0v6 : Value) (g0v7 : Value) (g0v8 : Value) (g0v9 : Value) (g0v10 : Value) g1_ (g1v1 : Value) (g1v2 : Value) (g1v3 : Value) (g1v4 : Value) (g1v5 : Value) (g1v6 : Value) (g1v7 : Value) (g1v8 : Value) (g1v9 : Value) (g1v10 : Value) g2_ (g2v1 : Value) (g2v2 : Value) (g2v3 : Value) (g2v4 : Value) (g2v5 : Value) (g2v6 : Value) (g2v7 : Value) (g2v8 : Value) (g2v9 : Value) (g2v10 : Value) g3_ (g3v1 : Value) (g3v2 : Value) (g3v3 : Value) (g3v4 : Value) (g3v5 : Value) (g3v6 : Value) (g3v7 : Value) (g3v8 : Value) (g3v9 : Value) (g3v10 : Value) g4_ (g4v1 : Value) (g4v2 : Value) (g4v3 : Value) (g4v4 : Value) (g4v5 : Value) (g4v6 : Value) (g4v7 : Value) (g4v8 : Value) (g4v9 : Value) (g4v10 : Value) g5_ (g5v1 : Value) (g5v2 : Value) (g5v3 : Value) (g5v4 : Value) (g5v5 : Value) (g5v6 : Value) (g5v7 : Value) (g5v8 : Value) (g5v9 : Value) (g5v10 : Value) g6_ (g6v1 : Value) (g6v2 : Value) (g6v3 : Value) (g6v4 : Value) (g6v5 : Value) (g6v6 : Value) (g6v7 : Value) (g6v8 : Value) (g6v9 : Value) (g6v10 : Value) g7_ (g7v1 : Value) (g7v2 : Value) (g7v3 : Value) (g7v4 : Value) (g7v5 : Value) (g7v6 : Value) (g7v7 : Value) (g7v8 : Value) (g7v9 : Value) (g7v10 : Value) (xs 1) (xs 2) (xs 3) (xs 4) ) (cwV 4 hg (z_gV mm_427 mm_428 mm_429 mm_108 mm_430) rfl rfl rfl (by decide +kernel) ⟨Nat.le_of_ble_eq_true rfl, Nat.le_of_ble_eq_true rfl⟩) ⟨(zA.pre [.ref x0, .int (xs 1), .int (xs 2), .int (xs 3), .int (xs 4)] hPc hK hDc hN).1, va_recv hK hPc (ci := 8) (q0 := 0) rfl rfl, (zA.pre [.ref x0, .int (xs 1), .int (xs 2), .int (xs 3), .int (xs 4)] hPc hK hDc hN).2⟩ rfl rfl hl.1 rfl (lv_room (Nat.le_of_ble_eq_true rfl)) dL_law_269 ⟨Nat.le_of_ble_eq_true rfl, Nat.le_of_ble_eq_true rfl⟩) hS (fun q _ h => hFc q h) hFc (fun r5 _ t H1 locs ht hvm hr5 hB hz1 hk1 hS => ?_)
  obtain ⟨hP1, hD1⟩ := hB
  rw [ht] at hP1
  obtain ⟨hP, hD⟩ := va_join (wr := [(m0, .inr (9, [.int 0, u1, u2, .ref bmv, u4, .int 0, .int 0, .int 0, .int 0, u9, u10, u11, u12, u13, u14, u15, .int 0, u17, u18, u19, u20, u21, u22, u23, u24, u25, u26, u27, u28, u29, u30, u31, u32, u33, u34, u35, u36, u37, u38, u39, u40, u41, u42, u43, u44, u45, u46])), (bmv, .inl (g.2 0, 64, .inl mv))]) (w1 := []) hP hD [0, 1, 2, 3, 4, 5, 6, 7, 8, 9, 10, 11, 12, 13, 14, 15, 16, 17, 18, 19, 20, 21, 22, 23, 24, 25, 26, 27, 28, 29, 30, 31, 32] [33, 34] rfl rfl (by decide) (by decide) hk1 hFc hP1 hD1
  generalize H1 = H at hP hS ⊢
  refine W.widen (k := 210) (n := 203560) (Nat.le_of_ble_eq_true rfl) (Nat.le_of_ble_eq_true rfl) ?_
  have hP : zP g [(m0, .inr (9, [.int 0, u1, u2, .ref bmv, u4, .int 0, .int 0, .int 0, .int 0, u9, u10, u11, u12, u13, u14, u15, .int 0, u17, u18, u19, u20, u21, u22, u23, u24, u25, u26, u27, u28, u29, u30, u31, u32, u33, u34, u35, u36, u37, u38, u39, u40, u41, u42, u43, u44, u45, u46])), (bmv, .inl (g.2 0, 64, .inl mv))] H := hP
  have hD : va_D A [(m0, .inr (9, [.int 0, u1, u2, .ref bmv, u4, .int 0, .int 0, .int 0, .int 0, u9, u10, u11, u12, u13, u14, u15, .int 0, u17, u18, u19, u20, u21, u22, u23, u24, u25, u26, u27, u28, u29, u30, u31, u32, u33, u34, u35, u36, u37, u38, u39, u40, u41, u42, u43, u44, u45, u46])), (bmv, .inl (g.2 0, 64, .inl mv))] := hD
  rcases hr5 with hr5 | hr5
  · skip
    obtain ⟨rfl, h6⟩ := hr5
    have h6 : (0 ≤ (xs 1).toInt ∧ (xs 1).toInt ≤ 15) ∧ (0 ≤ (xs 2).toInt ∧ (xs 2).toInt ≤ 15) ∧ (0 ≤ (xs 3).toInt ∧ (xs 3).toInt ≤ 15) ∧ 0 ≤ (xs 4).toInt ∧ (xs 4).toInt ≤ 15 := h6
    refine lv_aload_n hx hb dL_law_272 rfl (lv_at hl 2 rfl) ?_
    refine lv_aload_n hx hb dL_law_273 rfl (lv_at hl 0 rfl) ?_
    refine lv_iload_n hx hb dL_law_274 rfl (lv_at hl 3 rfl) ?_
    refine lv_iconst (v := 1) hx hb dL_law_275 (by decide) ?_
    refine lv_iadd hx hb dL_law_276 ?_
    refine lv_topi (fun x7 ex7 => ?_)
    obtain rfl : x7 = 1 := ex7.trans (by decide)
    refine va_sld hx hb hX hbl hbA hS (z_in (by decide : (1 : Int32).toInt = 1) (by omega) (by omega)) dL_law_277 ?_
    refine W.eq (g2 := F0 m 278 ls [.int (xs 1), .ref m0, .int 0]) rfl ?_
    refine lv_aload_n hx hb dL_law_278 rfl (lv_at hl 0 rfl) ?_
    refine lv_iload_n hx hb dL_law_279 rfl (lv_at hl 3 rfl) ?_
    refine lv_iconst (v := 2) hx hb dL_law_280 (by decide) ?_
    refine lv_iadd hx hb dL_law_281 ?_
    refine lv_topi (fun x8 ex8 => ?_)
    obtain rfl : x8 = 2 := ex8.trans (by decide)
    refine va_sld hx hb hX hbl hbA hS (z_in (by decide : (2 : Int32).toInt = 2) (by omega) (by omega)) dL_law_282 ?_
    refine W.eq (g2 := F0 m 283 ls [.int (xs 2), .int (xs 1), .ref m0, .int 0]) rfl ?_
    refine lv_aload_n hx hb dL_law_283 rfl (lv_at hl 0 rfl) ?_
    refine lv_iload_n hx hb dL_law_284 rfl (lv_at hl 3 rfl) ?_
    refine lv_iconst (v := 3) hx hb dL_law_285 (by decide) ?_
    refine lv_iadd hx hb dL_law_286 ?_
    refine lv_topi (fun x9 ex9 => ?_)
    obtain rfl : x9 = 3 := ex9.trans (by decide)
    refine va_sld hx hb hX hbl hbA hS (z_in (by decide : (3 : Int32).toInt = 3) (by omega) (by omega)) dL_law_287 ?_
    refine W.eq (g2 := F0 m 288 ls [.int (xs 3), .int (xs 2), .int (xs 1), .ref m0, .int 0]) rfl ?_
    refine lv_aload_n hx hb dL_law_288 rfl (lv_at hl 0 rfl) ?_
    refine lv_iload_n hx hb dL_law_289 rfl (lv_at hl 3 rfl) ?_
    refine lv_iconst (v := 4) hx hb dL_law_290 (by decide) ?_
    refine lv_iadd hx hb dL_law_291 ?_
    refine lv_topi (fun x10 ex10 => ?_)
    obtain rfl : x10 = 4 := ex10.trans (by decide)
    refine va_sld hx hb hX hbl hbA hS (z_in (by decide : (4 : Int32).toInt = 4) (by omega) (by omega)) dL_law_292 ?_
    refine W.eq (g2 := F0 m 293 ls [.int (xs 4), .int (xs 3), .int (xs 2), .int (xs 1), .ref m0, .int 0]) rfl ?_
    have hPc := hP.sub (ws' := [(m0, .inr (9, [.int 0, u1, u2, .ref bmv, u4, .int 0, .int 0, .int 0, .int 0, u9, u10, u11, u12, u13, u14, u15, .int 0, u17, u18, u19, u20, u21, u22, u23, u24, u25, u26, u27, u28, u29, u30, u31, u32, u33, u34, u35, u36, u37, u38, u39, u40, u41, u42, u43, u44, u45, u46])), (bmv, .inl (g.2 0, 64, .inl mv))]) [0, 1] rfl
    have hDc := hD.sub (ws' := [(m0, .inr (9, [.int 0, u1, u2, .ref bmv, u4, .int 0, .int 0, .int 0, .int 0, u9, u10, u11, u12, u13, u14, u15, .int 0, u17, u18, u19, u20, u21, u22, u23, u24, u25, u26, u27, u28, u29, u30, u31, u32, u33, u34, u35, u36, u37, u38, u39, u40, u41, u42, u43, u44, u45, u46])), (bmv, .inl (g.2 0, 64, .inl mv))]) [0, 1] (by decide) rfl
    have hFc := va_free (wc := [(m0, .inr (9, [.int 0, u1, u2, .ref bmv, u4, .int 0, .int 0, .int 0, .int 0, u9, u10, u11, u12, u13, u14, u15, .int 0, u17, u18, u19, u20, u21, u22, u23, u24, u25, u26, u27, u28, u29, u30, u31, u32, u33, u34, u35, u36, u37, u38, u39, u40, u41, u42, u43, u44, u45, u46])), (bmv, .inl (g.2 0, 64, .inl mv))]) hD hS hA [0, 1] rfl
    refine va_calli (va_runV (As := [.int (xs 1), .int (xs 2), .int (xs 3), .int (xs 4)]) (rest := [.int 0]) ⟨hx, hb, hml, hown, hg⟩ (c_X9_person l g _ m0 (u1 : Value) (u2 : Value) bmv mv (u4 : Value) (u9 : Value) (u10 : Value) (u11 : Value) (u12 : Value) (u13 : Value) (u14 : Value) (u15 : Value) (u17 : Value) (u18 : Value) (u19 : Value) (u20 : Value) (u21 : Value) (u22 : Value) (u23 : Value) (u24 : Value) (u25 : Value) (u26 : Value) (u27 : Value) (u28 : Value) (u29 : Value) (u30 : Value) (u31 : Value) (u32 : Value) (u33 : Value) (u34 : Value) (u35 : Value) (u36 : Value) (u37 : Value) (u38 : Value) (u39 : Value) (u40 : Value) (u41 : Value) (u42 : Value) (u43 : Value) (u44 : Value) (u45 : Value) (u46 : Value) (xs 1) (xs 2) (xs 3) (xs 4) ) (cwV 4 hg (z_gV mm_1116 mm_1117 mm_1118 mm_117 mm_1119) rfl rfl rfl (by decide +kernel) ⟨Nat.le_of_ble_eq_true rfl, Nat.le_of_ble_eq_true rfl⟩) ⟨(zA.pre [.ref m0, .int (xs 1), .int (xs 2), .int (xs 3), .int (xs 4)] hPc hK hDc hN).1, va_recv hK hPc (ci := 9) (q0 := 0) rfl rfl, (zA.pre [.ref m0, .int (xs 1), .int (xs 2), .int (xs 3), .int (xs 4)] hPc hK hDc hN).2⟩ rfl rfl hl.1 rfl (lv_room (Nat.le_of_ble_eq_true rfl)) dL_law_293 ⟨Nat.le_of_ble_eq_true rfl, Nat.le_of_ble_eq_true rfl⟩) hS (fun q _ h => hFc q h) hFc (fun r11 _ t H1 locs ht hvm hr11 hB hz1 hk1 hS => ?_)
    obtain ⟨hP1, hD1⟩ := hB
    rw [ht] at hP1
    obtain ⟨hP, hD⟩ := va_join (wr := []) (w1 := []) hP hD [0, 1] [] rfl rfl (by decide) (by decide) hk1 hFc hP1 hD1
    generalize H1 = H at hP hS ⊢
    refine W.widen (k := 210) (n := 203560) (Nat.le_of_ble_eq_true rfl) (Nat.le_of_ble_eq_true rfl) ?_
    have hP : zP g [] H := hP
    have hD : va_D A [] := hD
    rcases hr11 with hr11 | hr11
    · skip
      obtain ⟨rfl, h12⟩ := hr11
      have h12 : (0 ≤ (xs 1).toInt ∧ (xs 1).toInt ≤ 15) ∧ (0 ≤ (xs 2).toInt ∧ (xs 2).toInt ≤ 15) ∧ (0 ≤ (xs 3).toInt ∧ (xs 3).toInt ≤ 15) ∧ 0 ≤ (xs 4).toInt ∧ (xs 4).toInt ≤ 15 := h12
      refine lv_icmp_eq (tgt := 1533) hx hb dL_law_296 (by decide) (fun c13 => ?_) (fun c13 => ?_)
      · skip
        refine lv_iinc (v := 6) (lv' := [(3, .int 6), (0, .ref b), (1, .ref x0), (2, .ref m0)]) hx hb dL_law_1533 hl (k := 3) rfl (by decide) (by decide) rfl (fun ls hl => ?_)
        refine lv_goto (tgt := 18) hx hb dL_law_1536 (by decide) ?_
        refine lv_iload_n hx hb dL_law_18 rfl (lv_at hl 0 rfl) ?_
        refine lv_aload_n hx hb dL_law_19 rfl (lv_at hl 1 rfl) ?_
        refine va_slen hx hb hX hbl hbA hS dL_law_20 ?_
        refine W.eq (g2 := F0 m 21 ls [.int 6, .int 6]) rfl ?_
        refine lv_bipush (v := 6) hx hb dL_law_21 (by decide) ?_
        refine lv_isub hx hb dL_law_23 ?_
        refine lv_topi (fun x14 ex14 => ?_)
        obtain rfl : x14 = 0 := ex14.trans (by decide)
        refine lv_icmp_gt (tgt := 1539) hx hb dL_law_24 (by decide) (fun c15 => ?_) (fun c15 => ?_)
        · skip
          refine lv_iconst (v := 1) hx hb dL_law_1539 (by decide) ?_
          refine va_forget (fun q hq => hA' _ (hS.2.2 q hq)) ?_
          refine W.widen (k := 600000) (n := 7302250) (Nat.le_of_ble_eq_true rfl) (Nat.le_of_ble_eq_true rfl) ?_
          exact lw_ret hx hb hr hlocks dL_law_1540
        · skip
          exact absurd c15 (by decide)
      · skip
        exact absurd c13 (by decide)
    · skip
      obtain ⟨rfl, h16⟩ := hr11
      have h16 : ¬ ((0 ≤ (xs 1).toInt ∧ (xs 1).toInt ≤ 15) ∧ (0 ≤ (xs 2).toInt ∧ (xs 2).toInt ≤ 15) ∧ (0 ≤ (xs 3).toInt ∧ (xs 3).toInt ≤ 15) ∧ 0 ≤ (xs 4).toInt ∧ (xs 4).toInt ≤ 15) := h16
      exfalso
      omega
  · skip
    obtain ⟨rfl, h17⟩ := hr5
    have h17 : ¬ ((0 ≤ (xs 1).toInt ∧ (xs 1).toInt ≤ 15) ∧ (0 ≤ (xs 2).toInt ∧ (xs 2).toInt ≤ 15) ∧ (0 ≤ (xs 3).toInt ∧ (xs 3).toInt ≤ 15) ∧ 0 ≤ (xs 4).toInt ∧ (xs 4).toInt ≤ 15) := h17
    refine lv_aload_n hx hb dL_law_272 rfl (lv_at hl 2 rfl) ?_
    refine lv_aload_n hx hb dL_law_273 rfl (lv_at hl 0 rfl) ?_
    refine lv_iload_n hx hb dL_law_274 rfl (lv_at hl 3 rfl) ?_
    refine lv_iconst (v := 1) hx hb dL_law_275 (by decide) ?_
    refine lv_iadd hx hb dL_law_276 ?_
    refine lv_topi (fun x18 ex18 => ?_)
    obtain rfl : x18 = 1 := ex18.trans (by decide)
    refine va_sld hx hb hX hbl hbA hS (z_in (by decide : (1 : Int32).toInt = 1) (by omega) (by omega)) dL_law_277 ?_
    refine W.eq (g2 := F0 m 278 ls [.int (xs 1), .ref m0, .int (-1)]) rfl ?_
    refine lv_aload_n hx hb dL_law_278 rfl (lv_at hl 0 rfl) ?_
    refine lv_iload_n hx hb dL_law_279 rfl (lv_at hl 3 rfl) ?_
    refine lv_iconst (v := 2) hx hb dL_law_280 (by decide) ?_
    refine lv_iadd hx hb dL_law_281 ?_
    refine lv_topi (fun x19 ex19 => ?_)
    obtain rfl : x19 = 2 := ex19.trans (by decide)
    refine va_sld hx hb hX hbl hbA hS (z_in (by decide : (2 : Int32).toInt = 2) (by omega) (by omega)) dL_law_282 ?_
    refine W.eq (g2 := F0 m 283 ls [.int (xs 2), .int (xs 1), .ref m0, .int (-1)]) rfl ?_
    refine lv_aload_n hx hb dL_law_283 rfl (lv_at hl 0 rfl) ?_
    refine lv_iload_n hx hb dL_law_284 rfl (lv_at hl 3 rfl) ?_
    refine lv_iconst (v := 3) hx hb dL_law_285 (by decide) ?_
    refine lv_iadd hx hb dL_law_286 ?_
    refine lv_topi (fun x20 ex20 => ?_)
    obtain rfl : x20 = 3 := ex20.trans (by decide)
    refine va_sld hx hb hX hbl hbA hS (z_in (by decide : (3 : Int32).toInt = 3) (by omega) (by omega)) dL_law_287 ?_
    refine W.eq (g2 := F0 m 288 ls [.int (xs 3), .int (xs 2), .int (xs 1), .ref m0, .int (-1)]) rfl ?_
    refine lv_aload_n hx hb dL_law_288 rfl (lv_at hl 0 rfl) ?_
    refine lv_iload_n hx hb dL_law_289 rfl (lv_at hl 3 rfl) ?_
    refine lv_iconst (v := 4) hx hb dL_law_290 (by decide) ?_
    refine lv_iadd hx hb dL_law_291 ?_
    refine lv_topi (fun x21 ex21 => ?_)
    obtain rfl : x21 = 4 := ex21.trans (by decide)
    refine va_sld hx hb hX hbl hbA hS (z_in (by decide : (4 : Int32).toInt = 4) (by omega) (by omega)) dL_law_292 ?_
    refine W.eq (g2 := F0 m 293 ls [.int (xs 4), .int (xs 3), .int (xs 2), .int (xs 1), .ref m0, .int (-1)]) rfl ?_
    have hPc := hP.sub (ws' := [(m0, .inr (9, [.int 0, u1, u2, .ref bmv, u4, .int 0, .int 0, .int 0, .int 0, u9, u10, u11, u12, u13, u14, u15, .int 0, u17, u18, u19, u20, u21, u22, u23, u24, u25, u26, u27, u28, u29, u30, u31, u32, u33, u34, u35, u36, u37, u38, u39, u40, u41, u42, u43, u44, u45, u46])), (bmv, .inl (g.2 0, 64, .inl mv))]) [0, 1] rfl
    have hDc := hD.sub (ws' := [(m0, .inr (9, [.int 0, u1, u2, .ref bmv, u4, .int 0, .int 0, .int 0, .int 0, u9, u10, u11, u12, u13, u14, u15, .int 0, u17, u18, u19, u20, u21, u22, u23, u24, u25, u26, u27, u28, u29, u30, u31, u32, u33, u34, u35, u36, u37, u38, u39, u40, u41, u42, u43, u44, u45, u46])), (bmv, .inl (g.2 0, 64, .inl mv))]) [0, 1] (by decide) rfl
    have hFc := va_free (wc := [(m0, .inr (9, [.int 0, u1, u2, .ref bmv, u4, .int 0, .int 0, .int 0, .int 0, u9, u10, u11, u12, u13, u14, u15, .int 0, u17, u18, u19, u20, u21, u22, u23, u24, u25, u26, u27, u28, u29, u30, u31, u32, u33, u34, u35, u36, u37, u38, u39, u40, u41, u42, u43, u44, u45, u46])), (bmv, .inl (g.2 0, 64, .inl mv))]) hD hS hA [0, 1] rfl
    refine va_calli (va_runV (As := [.int (xs 1), .int (xs 2), .int (xs 3), .int (xs 4)]) (rest := [.int (-1)]) ⟨hx, hb, hml, hown, hg⟩ (c_X9_person l g _ m0 (u1 : Value) (u2 : Value) bmv mv (u4 : Value) (u9 : Value) (u10 : Value) (u11 : Value) (u12 : Value) (u13 : Value) (u14 : Value) (u15 : Value) (u17 : Value) (u18 : Value) (u19 : Value) (u20 : Value) (u21 : Value) (u22 : Value) (u23 : Value) (u24 : Value) (u25 : Value) (u26 : Value) (u27 : Value) (u28 : Value) (u29 : Value) (u30 : Value) (u31 : Value) (u32 : Value) (u33 : Value) (u34 : Value) (u35 : Value) (u36 : Value) (u37 : Value) (u38 : Value) (u39 : Value) (u40 : Value) (u41 : Value) (u42 : Value) (u43 : Value) (u44 : Value) (u45 : Value) (u46 : Value) (xs 1) (xs 2) (xs 3) (xs 4) ) (cwV 4 hg (z_gV mm_1116 mm_1117 mm_1118 mm_117 mm_1119) rfl rfl rfl (by decide +kernel) ⟨Nat.le_of_ble_eq_true rfl, Nat.le_of_ble_eq_true rfl⟩) ⟨(zA.pre [.ref m0, .int (xs 1), .int (xs 2), .int (xs 3), .int (xs 4)] hPc hK hDc hN).1, va_recv hK hPc (ci := 9) (q0 := 0) rfl rfl, (zA.pre [.ref m0, .int (xs 1), .int (xs 2), .int (xs 3), .int (xs 4)] hPc hK hDc hN).2⟩ rfl rfl hl.1 rfl (lv_room (Nat.le_of_ble_eq_true rfl)) dL_law_293 ⟨Nat.le_of_ble_eq_true rfl, Nat.le_of_ble_eq_true rfl⟩) hS (fun q _ h => hFc q h) hFc (fun r22 _ t H1 locs ht hvm hr22 hB hz1 hk1 hS => ?_)
    obtain ⟨hP1, hD1⟩ := hB
    rw [ht] at hP1
    obtain ⟨hP, hD⟩ := va_join (wr := []) (w1 := []) hP hD [0, 1] [] rfl rfl (by decide) (by decide) hk1 hFc hP1 hD1
    generalize H1 = H at hP hS ⊢
    refine W.widen (k := 210) (n := 203560) (Nat.le_of_ble_eq_true rfl) (Nat.le_of_ble_eq_true rfl) ?_
    have hP : zP g [] H := hP
    have hD : va_D A [] := hD
    rcases hr22 with hr22 | hr22
    · skip
      obtain ⟨rfl, h23⟩ := hr22
      have h23 : (0 ≤ (xs 1).toInt ∧ (xs 1).toInt ≤ 15) ∧ (0 ≤ (xs 2).toInt ∧ (xs 2).toInt ≤ 15) ∧ (0 ≤ (xs 3).toInt ∧ (xs 3).toInt ≤ 15) ∧ 0 ≤ (xs 4).toInt ∧ (xs 4).toInt ≤ 15 := h23
      exfalso
      omega
    · skip
      obtain ⟨rfl, h24⟩ := hr22
      have h24 : ¬ ((0 ≤ (xs 1).toInt ∧ (xs 1).toInt ≤ 15) ∧ (0 ≤ (xs 2).toInt ∧ (xs 2).toInt ≤ 15) ∧ (0 ≤ (xs 3).toInt ∧ (xs 3).toInt ≤ 15) ∧ 0 ≤ (xs 4).toInt ∧ (xs 4).toInt ≤ 15) := h24
      refine lv_icmp_eq (tgt := 1533) hx hb dL_law_296 (by decide) (fun c25 => ?_) (fun c25 => ?_)
      · skip
        refine lv_iinc (v := 6) (lv' := [(3, .int 6), (0, .ref b), (1, .ref x0), (2, .ref m0)]) hx hb dL_law_1533 hl (k := 3) rfl (by decide) (by decide) rfl (fun ls hl => ?_)
        refine lv_goto (tgt := 18) hx hb dL_law_1536 (by decide) ?_
        refine lv_iload_n hx hb dL_law_18 rfl (lv_at hl 0 rfl) ?_
        refine lv_aload_n hx hb dL_law_19 rfl (lv_at hl 1 rfl) ?_
        refine va_slen hx hb hX hbl hbA hS dL_law_20 ?_
        refine W.eq (g2 := F0 m 21 ls [.int 6, .int 6]) rfl ?_
        refine lv_bipush (v := 6) hx hb dL_law_21 (by decide) ?_
        refine lv_isub hx hb dL_law_23 ?_
        refine lv_topi (fun x26 ex26 => ?_)
        obtain rfl : x26 = 0 := ex26.trans (by decide)
        refine lv_icmp_gt (tgt := 1539) hx hb dL_law_24 (by decide) (fun c27 => ?_) (fun c27 => ?_)
        · skip
          refine lv_iconst (v := 1) hx hb dL_law_1539 (by decide) ?_
          refine va_forget (fun q hq => hA' _ (hS.2.2 q hq)) ?_
          refine W.widen (k := 600000) (n := 7302250) (Nat.le_of_ble_eq_true rfl) (Nat.le_of_ble_eq_true rfl) ?_
          exact lw_ret hx hb hr hlocks dL_law_1540
        · skip
          exact absurd c27 (by decide)
      · skip
        exact absurd c25 (by decide)

set_option maxHeartbeats 4000000 in
set_option maxRecDepth 100000 in
theorem op_wish {p : Program} {e : Env} {s : State} {m : MethodId} {below : List Frame} {meth : Method} {c : Code} (l : Launch) {b : Nat} {xs : Nat → Int32} (C0 : lw_At p s m meth c b 6 xs) (g : zG) (hK : zK g s) (hN : zN s) (x0 : Nat) (w0 : Value) (w1 : Value) (w2 : Value) (w3 : Value) (w4 : Value) (w5 : Value) (w6 : Value) (w7 : Value) (w8 : Value) (w9 : Value) (w10 : Value) (m0 : Nat) (u1 : Value) (u2 : Value) (u3 : Value) (u4 : Value) (u9 : Value) (u10 : Value) (u11 : Value) (u12 : Value) (u13 : Value) (u14 : Value) (u15 : Value) (u17 : Value) (u18 : Value) (u19 : Value) (u20 : Value) (u21 : Value) (u22 : Value) (u23 : Value) (u24 : Value) (u25 : Value) (u26 : Value) (u27 : Value) (u28 : Value) (u29 : Value) (u30 : Value) (u31 : Value) (u32 : Value) (u33 : Value) (u34 : Value) (u35 : Value) (u36 : Value) (u37 : Value) (u38 : Value) (u39 : Value) (u40 : Value) (u41 : Value) (u42 : Value) (u43 : Value) (u44 : Value) (u45 : Value) (u46 : Value) {A : Nat → Prop} (hA : ∀ q, s.heap.size ≤ q → A q) (hA' : ∀ q, A q → s.heap.size ≤ q) (H : Heap) (locs : List Loc) (hS : va_S A s.heap H locs) (hP : zP g [(x0, .inr (8, [w0, w1, w2, w3, w4, w5, w6, w7, w8, w9, w10, .int 0, .int 0])), (m0, .inr (9, [.int 0, u1, u2, u3, u4, .int 0, .int 0, .int 0, .int 0, u9, u10, u11, u12, u13, u14, u15, .int 0, u17, u18, u19, u20, u21, u22, u23, u24, u25, u26, u27, u28, u29, u30, u31, u32, u33, u34, u35, u36, u37, u38, u39, u40, u41, u42, u43, u44, u45, u46]))] H) (hD : va_D A [(x0, .inr (8, [w0, w1, w2, w3, w4, w5, w6, w7, w8, w9, w10, .int 0, .int 0])), (m0, .inr (9, [.int 0, u1, u2, u3, u4, .int 0, .int 0, .int 0, .int 0, u9, u10, u11, u12, u13, u14, u15, .int 0, u17, u18, u19, u20, u21, u22, u23, u24, u25, u26, u27, u28, u29, u30, u31, u32, u33, u34, u35, u36, u37, u38, u39, u40, u41, u42, u43, u44, u45, u46]))]) (ls : Array Slot) (hl : lv_has ls 4 [(0, .ref b), (1, .ref x0), (2, .ref m0), (3, .int 0)]) : W p l e room_1 s m #[Value.ref b] below meth c H locs 210 203560 (lw_Z below #[Value.ref b] s) (F0 m 301 ls []) := by
  obtain ⟨hx, hb, hr, hml, hown, hts, hX, hbl, hlocks, hgv⟩ := C0
  have hg : ∀ w ∈ zGW, w.before #[Value.ref b] s = true := fun w h => hts w (List.mem_filter.mp h).1
  have hown : s.vm.findClass RL = some m.cls := hown
  have hbA : ¬ A b := fun h => absurd (hA' b h) (Nat.not_le.mpr hbl)
  refine lv_aload_n hx hb dL_law_301 rfl (lv_at hl 1 rfl) ?_
  refine lv_aload_n hx hb dL_law_302 rfl (lv_at hl 0 rfl) ?_
  refine lv_iload_n hx hb dL_law_303 rfl (lv_at hl 3 rfl) ?_
  refine lv_iconst (v := 1) hx hb dL_law_304 (by decide) ?_
  refine lv_iadd hx hb dL_law_305 ?_
  refine lv_topi (fun x1 ex1 => ?_)
  obtain rfl : x1 = 1 := ex1.trans (by decide)
  refine va_sld hx hb hX hbl hbA hS (z_in (by decide : (1 : Int32).toInt = 1) (by omega) (by omega)) dL_law_306 ?_
  refine W.eq (g2 := F0 m 307 ls [.int (xs 1), .ref x0]) rfl ?_
  refine lv_aload_n hx hb dL_law_307 rfl (lv_at hl 0 rfl) ?_
  refine lv_iload_n hx hb dL_law_308 rfl (lv_at hl 3 rfl) ?_
  refine lv_iconst (v := 2) hx hb dL_law_309 (by decide) ?_
  refine lv_iadd hx hb dL_law_310 ?_
  refine lv_topi (fun x2 ex2 => ?_)
  obtain rfl : x2 = 2 := ex2.trans (by decide)
  refine va_sld hx hb hX hbl hbA hS (z_in (by decide : (2 : Int32).toInt = 2) (by omega) (by omega)) dL_law_311 ?_
  refine W.eq (g2 := F0 m 312 ls [.int (xs 2), .int (xs 1), .ref x0]) rfl ?_
  have hPc := hP.sub (ws' := [(x0, .inr (8, [w0, w1, w2, w3, w4, w5, w6, w7, w8, w9, w10, .int 0, .int 0]))]) [0] rfl
  refine zc_i (va_runV (As := [.int (xs 1), .int (xs 2)]) (rest := []) ⟨hx, hb, hml, hown, hg⟩ (c_X8_wish l g x0 (w0 : Value) (w1 : Value) (w2 : Value) (w3 : Value) (w4 : Value) (w5 : Value) (w6 : Value) (w7 : Value) (w8 : Value) (w9 : Value) (w10 : Value) (xs 1) (xs 2) ) (cwV 2 hg (z_gV mm_513 mm_514 mm_515 mm_108 mm_516) rfl rfl rfl (by decide +kernel) ⟨Nat.le_of_ble_eq_true rfl, Nat.le_of_ble_eq_true rfl⟩) ⟨(zR.pre [.ref x0, .int (xs 1), .int (xs 2)] hPc hK hN).1, va_recv hK hPc (ci := 8) (q0 := 0) rfl rfl, (zR.pre [.ref x0, .int (xs 1), .int (xs 2)] hPc hK hN).2⟩ rfl rfl hl.1 rfl (lv_room (Nat.le_of_ble_eq_true rfl)) dL_law_312 ⟨Nat.le_of_ble_eq_true rfl, Nat.le_of_ble_eq_true rfl⟩) (fun r3 hr3 => ?_)
  obtain rfl := hr3
  refine lv_aload_n hx hb dL_law_315 rfl (lv_at hl 2 rfl) ?_
  refine lv_aload_n hx hb dL_law_316 rfl (lv_at hl 0 rfl) ?_
  refine lv_iload_n hx hb dL_law_317 rfl (lv_at hl 3 rfl) ?_
  refine lv_iconst (v := 1) hx hb dL_law_318 (by decide) ?_
  refine lv_iadd hx hb dL_law_319 ?_
  refine lv_topi (fun x4 ex4 => ?_)
  obtain rfl : x4 = 1 := ex4.trans (by decide)
  refine va_sld hx hb hX hbl hbA hS (z_in (by decide : (1 : Int32).toInt = 1) (by omega) (by omega)) dL_law_320 ?_
  refine W.eq (g2 := F0 m 321 ls [.int (xs 1), .ref m0, .int 0]) rfl ?_
  refine lv_aload_n hx hb dL_law_321 rfl (lv_at hl 0 rfl) ?_
  refine lv_iload_n hx hb dL_law_322 rfl (lv_at hl 3 rfl) ?_
  refine lv_iconst (v := 2) hx hb dL_law_323 (by decide) ?_
  refine lv_iadd hx hb dL_law_324 ?_
  refine lv_topi (fun x5 ex5 => ?_)
  obtain rfl : x5 = 2 := ex5.trans (by decide)
  refine va_sld hx hb hX hbl hbA hS (z_in (by decide : (2 : Int32).toInt = 2) (by omega) (by omega)) dL_law_325 ?_
  refine W.eq (g2 := F0 m 326 ls [.int (xs 2), .int (xs 1), .ref m0, .int 0]) rfl ?_
  have hPc := hP.sub (ws' := [(m0, .inr (9, [.int 0, u1, u2, u3, u4, .int 0, .int 0, .int 0, .int 0, u9, u10, u11, u12, u13, u14, u15, .int 0, u17, u18, u19, u20, u21, u22, u23, u24, u25, u26, u27, u28, u29, u30, u31, u32, u33, u34, u35, u36, u37, u38, u39, u40, u41, u42, u43, u44, u45, u46]))]) [1] rfl
  refine zc_i (va_runV (As := [.int (xs 1), .int (xs 2)]) (rest := [.int 0]) ⟨hx, hb, hml, hown, hg⟩ (c_X9_wish l g m0 (u1 : Value) (u2 : Value) (u3 : Value) (u4 : Value) (u9 : Value) (u10 : Value) (u11 : Value) (u12 : Value) (u13 : Value) (u14 : Value) (u15 : Value) (u17 : Value) (u18 : Value) (u19 : Value) (u20 : Value) (u21 : Value) (u22 : Value) (u23 : Value) (u24 : Value) (u25 : Value) (u26 : Value) (u27 : Value) (u28 : Value) (u29 : Value) (u30 : Value) (u31 : Value) (u32 : Value) (u33 : Value) (u34 : Value) (u35 : Value) (u36 : Value) (u37 : Value) (u38 : Value) (u39 : Value) (u40 : Value) (u41 : Value) (u42 : Value) (u43 : Value) (u44 : Value) (u45 : Value) (u46 : Value) (xs 1) (xs 2) ) (cwV 2 hg (z_gV mm_1120 mm_1121 mm_1122 mm_117 mm_1123) rfl rfl rfl (by decide +kernel) ⟨Nat.le_of_ble_eq_true rfl, Nat.le_of_ble_eq_true rfl⟩) ⟨(zR.pre [.ref m0, .int (xs 1), .int (xs 2)] hPc hK hN).1, va_recv hK hPc (ci := 9) (q0 := 0) rfl rfl, (zR.pre [.ref m0, .int (xs 1), .int (xs 2)] hPc hK hN).2⟩ rfl rfl hl.1 rfl (lv_room (Nat.le_of_ble_eq_true rfl)) dL_law_326 ⟨Nat.le_of_ble_eq_true rfl, Nat.le_of_ble_eq_true rfl⟩) (fun r6 hr6 => ?_)
  obtain rfl := hr6
  refine lv_icmp_eq (tgt := 1533) hx hb dL_law_329 (by decide) (fun c7 => ?_) (fun c7 => ?_)
  · skip
    refine lv_iinc (v := 6) (lv' := [(3, .int 6), (0, .ref b), (1, .ref x0), (2, .ref m0)]) hx hb dL_law_1533 hl (k := 3) rfl (by decide) (by decide) rfl (fun ls hl => ?_)
    refine lv_goto (tgt := 18) hx hb dL_law_1536 (by decide) ?_
    refine lv_iload_n hx hb dL_law_18 rfl (lv_at hl 0 rfl) ?_
    refine lv_aload_n hx hb dL_law_19 rfl (lv_at hl 1 rfl) ?_
    refine va_slen hx hb hX hbl hbA hS dL_law_20 ?_
    refine W.eq (g2 := F0 m 21 ls [.int 6, .int 6]) rfl ?_
    refine lv_bipush (v := 6) hx hb dL_law_21 (by decide) ?_
    refine lv_isub hx hb dL_law_23 ?_
    refine lv_topi (fun x8 ex8 => ?_)
    obtain rfl : x8 = 0 := ex8.trans (by decide)
    refine lv_icmp_gt (tgt := 1539) hx hb dL_law_24 (by decide) (fun c9 => ?_) (fun c9 => ?_)
    · skip
      refine lv_iconst (v := 1) hx hb dL_law_1539 (by decide) ?_
      refine va_forget (fun q hq => hA' _ (hS.2.2 q hq)) ?_
      refine W.widen (k := 600000) (n := 7302250) (Nat.le_of_ble_eq_true rfl) (Nat.le_of_ble_eq_true rfl) ?_
      exact lw_ret hx hb hr hlocks dL_law_1540
    · skip
      exact absurd c9 (by decide)
  · skip
    exact absurd c7 (by decide)

set_option maxHeartbeats 4000000 in
set_option maxRecDepth 100000 in
theorem op_feed {p : Program} {e : Env} {s : State} {m : MethodId} {below : List Frame} {meth : Method} {c : Code} (l : Launch) {b : Nat} {xs : Nat → Int32} (C0 : lw_At p s m meth c b 6 xs) (g : zG) (hK : zK g s) (hN : zN s) (x0 : Nat) (aC : Value) (aW : Value) (aT : Nat) (aB : Value) (aL : Value) (aG : Value) (aM : Value) (aA : Value) (aU : Value) (aE : Value) (aD : Value) (aTb : Nat) (ft : Nat → Int32) (m0 : Nat) (u1 : Value) (u2 : Value) (u3 : Value) (u4 : Value) (u9 : Value) (u10 : Value) (u11 : Value) (u12 : Value) (u13 : Value) (u14 : Value) (bmt : Nat) (mt : Nat → Int32) (u17 : Value) (u18 : Value) (u19 : Value) (u20 : Value) (u21 : Value) (u22 : Value) (u23 : Value) (u24 : Value) (u25 : Value) (u26 : Value) (u27 : Value) (u28 : Value) (u29 : Value) (u30 : Value) (u31 : Value) (u32 : Value) (u33 : Value) (u34 : Value) (u35 : Value) (u36 : Value) (u37 : Value) (u38 : Value) (u39 : Value) (u40 : Value) (u41 : Value) (u42 : Value) (u43 : Value) (u44 : Value) (u45 : Value) (u46 : Value) {A : Nat → Prop} (hA : ∀ q, s.heap.size ≤ q → A q) (hA' : ∀ q, A q → s.heap.size ≤ q) (H : Heap) (locs : List Loc) (hS : va_S A s.heap H locs) (hP : zP g [(x0, .inr (8, [aC, aW, .ref aT, aB, aL, aG, aM, aA, aU, aE, aD, .int 0, .int 0])), (aT, .inr (7, [.int 0, .ref aTb])), (aTb, .inl (g.2 0, 200, .inl ft)), (m0, .inr (9, [.int 0, u1, u2, u3, u4, .int 0, .int 0, .int 0, .int 0, u9, u10, u11, u12, u13, u14, .ref bmt, .int 0, u17, u18, u19, u20, u21, u22, u23, u24, u25, u26, u27, u28, u29, u30, u31, u32, u33, u34, u35, u36, u37, u38, u39, u40, u41, u42, u43, u44, u45, u46])), (bmt, .inl (g.2 2, 200, .inl mt))] H) (hD : va_D A [(x0, .inr (8, [aC, aW, .ref aT, aB, aL, aG, aM, aA, aU, aE, aD, .int 0, .int 0])), (aT, .inr (7, [.int 0, .ref aTb])), (aTb, .inl (g.2 0, 200, .inl ft)), (m0, .inr (9, [.int 0, u1, u2, u3, u4, .int 0, .int 0, .int 0, .int 0, u9, u10, u11, u12, u13, u14, .ref bmt, .int 0, u17, u18, u19, u20, u21, u22, u23, u24, u25, u26, u27, u28, u29, u30, u31, u32, u33, u34, u35, u36, u37, u38, u39, u40, u41, u42, u43, u44, u45, u46])), (bmt, .inl (g.2 2, 200, .inl mt))]) (ls : Array Slot) (hl : lv_has ls 4 [(0, .ref b), (1, .ref x0), (2, .ref m0), (3, .int 0)]) : W p l e room_1 s m #[Value.ref b] below meth c H locs 210 203560 (lw_Z below #[Value.ref b] s) (F0 m 334 ls []) := by
  obtain ⟨hx, hb, hr, hml, hown, hts, hX, hbl, hlocks, hgv⟩ := C0
  have hg : ∀ w ∈ zGW, w.before #[Value.ref b] s = true := fun w h => hts w (List.mem_filter.mp h).1
  have hown : s.vm.findClass RL = some m.cls := hown
  have hbA : ¬ A b := fun h => absurd (hA' b h) (Nat.not_le.mpr hbl)
  refine lv_aload_n hx hb dL_law_334 rfl (lv_at hl 1 rfl) ?_
  refine lv_aload_n hx hb dL_law_335 rfl (lv_at hl 0 rfl) ?_
  refine lv_iload_n hx hb dL_law_336 rfl (lv_at hl 3 rfl) ?_
  refine lv_iconst (v := 1) hx hb dL_law_337 (by decide) ?_
  refine lv_iadd hx hb dL_law_338 ?_
  refine lv_topi (fun x1 ex1 => ?_)
  obtain rfl : x1 = 1 := ex1.trans (by decide)
  refine va_sld hx hb hX hbl hbA hS (z_in (by decide : (1 : Int32).toInt = 1) (by omega) (by omega)) dL_law_339 ?_
  refine W.eq (g2 := F0 m 340 ls [.int (xs 1), .ref x0]) rfl ?_
  refine lv_aload_n hx hb dL_law_340 rfl (lv_at hl 0 rfl) ?_
  refine lv_iload_n hx hb dL_law_341 rfl (lv_at hl 3 rfl) ?_
  refine lv_iconst (v := 2) hx hb dL_law_342 (by decide) ?_
  refine lv_iadd hx hb dL_law_343 ?_
  refine lv_topi (fun x2 ex2 => ?_)
  obtain rfl : x2 = 2 := ex2.trans (by decide)
  refine va_sld hx hb hX hbl hbA hS (z_in (by decide : (2 : Int32).toInt = 2) (by omega) (by omega)) dL_law_344 ?_
  refine W.eq (g2 := F0 m 345 ls [.int (xs 2), .int (xs 1), .ref x0]) rfl ?_
  refine lv_aload_n hx hb dL_law_345 rfl (lv_at hl 0 rfl) ?_
  refine lv_iload_n hx hb dL_law_346 rfl (lv_at hl 3 rfl) ?_
  refine lv_iconst (v := 3) hx hb dL_law_347 (by decide) ?_
  refine lv_iadd hx hb dL_law_348 ?_
  refine lv_topi (fun x3 ex3 => ?_)
  obtain rfl : x3 = 3 := ex3.trans (by decide)
  refine va_sld hx hb hX hbl hbA hS (z_in (by decide : (3 : Int32).toInt = 3) (by omega) (by omega)) dL_law_349 ?_
  refine W.eq (g2 := F0 m 350 ls [.int (xs 3), .int (xs 2), .int (xs 1), .ref x0]) rfl ?_
  refine lv_aload_n hx hb dL_law_350 rfl (lv_at hl 0 rfl) ?_
  refine lv_iload_n hx hb dL_law_351 rfl (lv_at hl 3 rfl) ?_
  refine lv_iconst (v := 4) hx hb dL_law_352 (by decide) ?_
  refine lv_iadd hx hb dL_law_353 ?_
  refine lv_topi (fun x4 ex4 => ?_)
  obtain rfl : x4 = 4 := ex4.trans (by decide)
  refine va_sld hx hb hX hbl hbA hS (z_in (by decide : (4 : Int32).toInt = 4) (by omega) (by omega)) dL_law_354 ?_
  refine W.eq (g2 := F0 m 355 ls [.int (xs 4), .int (xs 3), .int (xs 2), .int (xs 1), .ref x0]) rfl ?_
  refine lv_aload_n hx hb dL_law_355 rfl (lv_at hl 0 rfl) ?_
  refine lv_iload_n hx hb dL_law_356 rfl (lv_at hl 3 rfl) ?_
  refine lv_iconst (v := 5) hx hb dL_law_357 (by decide) ?_
  refine lv_iadd hx hb dL_law_358 ?_
  refine lv_topi (fun x5 ex5 => ?_)
  obtain rfl : x5 = 5 := ex5.trans (by decide)
  refine va_sld hx hb hX hbl hbA hS (z_in (by decide : (5 : Int32).toInt = 5) (by omega) (by omega)) dL_law_359 ?_
  refine W.eq (g2 := F0 m 360 ls [.int (xs 5), .int (xs 4), .int (xs 3), .int (xs 2), .int (xs 1), .ref x0]) rfl ?_
  have hPc := hP.sub (ws' := [(x0, .inr (8, [aC, aW, .ref aT, aB, aL, aG, aM, aA, aU, aE, aD, .int 0, .int 0])), (aT, .inr (7, [.int 0, .ref aTb])), (aTb, .inl (g.2 0, 200, .inl ft))]) [0, 1, 2] rfl
  have hDc := hD.sub (ws' := [(x0, .inr (8, [aC, aW, .ref aT, aB, aL, aG, aM, aA, aU, aE, aD, .int 0, .int 0])), (aT, .inr (7, [.int 0, .ref aTb])), (aTb, .inl (g.2 0, 200, .inl ft))]) [0, 1, 2] (by decide) rfl
  have hFc := va_free (wc := [(x0, .inr (8, [aC, aW, .ref aT, aB, aL, aG, aM, aA, aU, aE, aD, .int 0, .int 0])), (aT, .inr (7, [.int 0, .ref aTb])), (aTb, .inl (g.2 0, 200, .inl ft))]) hD hS hA [0, 1, 2] rfl
  refine va_calli (va_runV (As := [.int (xs 1), .int (xs 2), .int (xs 3), .int (xs 4), .int (xs 5)]) (rest := []) ⟨hx, hb, hml, hown, hg⟩ (c_X8_feed l g _ x0 (aC : Value) (aW : Value) aT (aB : Value) (aL : Value) (aG : Value) (aM : Value) (aA : Value) (aU : Value) (aE : Value) (aD : Value) aTb ft (xs 1) (xs 2) (xs 3) (xs 4) (xs 5) ) (cwV 5 hg (z_gV mm_517 mm_518 mm_519 mm_108 mm_520) rfl rfl rfl (by decide +kernel) ⟨Nat.le_of_ble_eq_true rfl, Nat.le_of_ble_eq_true rfl⟩) ⟨(zA.pre [.ref x0, .int (xs 1), .int (xs 2), .int (xs 3), .int (xs 4), .int (xs 5)] hPc hK hDc hN).1, va_recv hK hPc (ci := 8) (q0 := 0) rfl rfl, (zA.pre [.ref x0, .int (xs 1), .int (xs 2), .int (xs 3), .int (xs 4), .int (xs 5)] hPc hK hDc hN).2⟩ rfl rfl hl.1 rfl (lv_room (Nat.le_of_ble_eq_true rfl)) dL_law_360 ⟨Nat.le_of_ble_eq_true rfl, Nat.le_of_ble_eq_true rfl⟩) hS (fun q _ h => hFc q h) hFc (fun r6 _ t H1 locs ht hvm hr6 hB hz1 hk1 hS => ?_)
  obtain ⟨hP1, hD1⟩ := hB
  rw [ht] at hP1
  obtain ⟨hP, hD⟩ := va_join (wr := [(m0, .inr (9, [.int 0, u1, u2, u3, u4, .int 0, .int 0, .int 0, .int 0, u9, u10, u11, u12, u13, u14, .ref bmt, .int 0, u17, u18, u19, u20, u21, u22, u23, u24, u25, u26, u27, u28, u29, u30, u31, u32, u33, u34, u35, u36, u37, u38, u39, u40, u41, u42, u43, u44, u45, u46])), (bmt, .inl (g.2 2, 200, .inl mt))]) (w1 := []) hP hD [0, 1, 2] [3, 4] rfl rfl (by decide) (by decide) hk1 hFc hP1 hD1
  generalize H1 = H at hP hS ⊢
  refine W.widen (k := 210) (n := 203560) (Nat.le_of_ble_eq_true rfl) (Nat.le_of_ble_eq_true rfl) ?_
  have hP : zP g [(m0, .inr (9, [.int 0, u1, u2, u3, u4, .int 0, .int 0, .int 0, .int 0, u9, u10, u11, u12, u13, u14, .ref bmt, .int 0, u17, u18, u19, u20, u21, u22, u23, u24, u25, u26, u27, u28, u29, u30, u31, u32, u33, u34, u35, u36, u37, u38, u39, u40, u41, u42, u43, u44, u45, u46])), (bmt, .inl (g.2 2, 200, .inl mt))] H := hP
  have hD : va_D A [(m0, .inr (9, [.int 0, u1, u2, u3, u4, .int 0, .int 0, .int 0, .int 0, u9, u10, u11, u12, u13, u14, .ref bmt, .int 0, u17, u18, u19, u20, u21, u22, u23, u24, u25, u26, u27, u28, u29, u30, u31, u32, u33, u34, u35, u36, u37, u38, u39, u40, u41, u42, u43, u44, u45, u46])), (bmt, .inl (g.2 2, 200, .inl mt))] := hD
  obtain rfl := hr6
  refine lv_aload_n hx hb dL_law_363 rfl (lv_at hl 2 rfl) ?_
  refine lv_aload_n hx hb dL_law_364 rfl (lv_at hl 0 rfl) ?_
  refine lv_iload_n hx hb dL_law_365 rfl (lv_at hl 3 rfl) ?_
  refine lv_iconst (v := 1) hx hb dL_law_366 (by decide) ?_
  refine lv_iadd hx hb dL_law_367 ?_
  refine lv_topi (fun x7 ex7 => ?_)
  obtain rfl : x7 = 1 := ex7.trans (by decide)
  refine va_sld hx hb hX hbl hbA hS (z_in (by decide : (1 : Int32).toInt = 1) (by omega) (by omega)) dL_law_368 ?_
  refine W.eq (g2 := F0 m 369 ls [.int (xs 1), .ref m0, .int 20]) rfl ?_
  refine lv_aload_n hx hb dL_law_369 rfl (lv_at hl 0 rfl) ?_
  refine lv_iload_n hx hb dL_law_370 rfl (lv_at hl 3 rfl) ?_
  refine lv_iconst (v := 2) hx hb dL_law_371 (by decide) ?_
  refine lv_iadd hx hb dL_law_372 ?_
  refine lv_topi (fun x8 ex8 => ?_)
  obtain rfl : x8 = 2 := ex8.trans (by decide)
  refine va_sld hx hb hX hbl hbA hS (z_in (by decide : (2 : Int32).toInt = 2) (by omega) (by omega)) dL_law_373 ?_
  refine W.eq (g2 := F0 m 374 ls [.int (xs 2), .int (xs 1), .ref m0, .int 20]) rfl ?_
  refine lv_aload_n hx hb dL_law_374 rfl (lv_at hl 0 rfl) ?_
  refine lv_iload_n hx hb dL_law_375 rfl (lv_at hl 3 rfl) ?_
  refine lv_iconst (v := 3) hx hb dL_law_376 (by decide) ?_
  refine lv_iadd hx hb dL_law_377 ?_
  refine lv_topi (fun x9 ex9 => ?_)
  obtain rfl : x9 = 3 := ex9.trans (by decide)
  refine va_sld hx hb hX hbl hbA hS (z_in (by decide : (3 : Int32).toInt = 3) (by omega) (by omega)) dL_law_378 ?_
  refine W.eq (g2 := F0 m 379 ls [.int (xs 3), .int (xs 2), .int (xs 1), .ref m0, .int 20]) rfl ?_
  refine lv_aload_n hx hb dL_law_379 rfl (lv_at hl 0 rfl) ?_
  refine lv_iload_n hx hb dL_law_380 rfl (lv_at hl 3 rfl) ?_
  refine lv_iconst (v := 4) hx hb dL_law_381 (by decide) ?_
  refine lv_iadd hx hb dL_law_382 ?_
  refine lv_topi (fun x10 ex10 => ?_)
  obtain rfl : x10 = 4 := ex10.trans (by decide)
  refine va_sld hx hb hX hbl hbA hS (z_in (by decide : (4 : Int32).toInt = 4) (by omega) (by omega)) dL_law_383 ?_
  refine W.eq (g2 := F0 m 384 ls [.int (xs 4), .int (xs 3), .int (xs 2), .int (xs 1), .ref m0, .int 20]) rfl ?_
  refine lv_aload_n hx hb dL_law_384 rfl (lv_at hl 0 rfl) ?_
  refine lv_iload_n hx hb dL_law_385 rfl (lv_at hl 3 rfl) ?_
  refine lv_iconst (v := 5) hx hb dL_law_386 (by decide) ?_
  refine lv_iadd hx hb dL_law_387 ?_
  refine lv_topi (fun x11 ex11 => ?_)
  obtain rfl : x11 = 5 := ex11.trans (by decide)
  refine va_sld hx hb hX hbl hbA hS (z_in (by decide : (5 : Int32).toInt = 5) (by omega) (by omega)) dL_law_388 ?_
  refine W.eq (g2 := F0 m 389 ls [.int (xs 5), .int (xs 4), .int (xs 3), .int (xs 2), .int (xs 1), .ref m0, .int 20]) rfl ?_
  have hPc := hP.sub (ws' := [(m0, .inr (9, [.int 0, u1, u2, u3, u4, .int 0, .int 0, .int 0, .int 0, u9, u10, u11, u12, u13, u14, .ref bmt, .int 0, u17, u18, u19, u20, u21, u22, u23, u24, u25, u26, u27, u28, u29, u30, u31, u32, u33, u34, u35, u36, u37, u38, u39, u40, u41, u42, u43, u44, u45, u46])), (bmt, .inl (g.2 2, 200, .inl mt))]) [0, 1] rfl
  have hDc := hD.sub (ws' := [(m0, .inr (9, [.int 0, u1, u2, u3, u4, .int 0, .int 0, .int 0, .int 0, u9, u10, u11, u12, u13, u14, .ref bmt, .int 0, u17, u18, u19, u20, u21, u22, u23, u24, u25, u26, u27, u28, u29, u30, u31, u32, u33, u34, u35, u36, u37, u38, u39, u40, u41, u42, u43, u44, u45, u46])), (bmt, .inl (g.2 2, 200, .inl mt))]) [0, 1] (by decide) rfl
  have hFc := va_free (wc := [(m0, .inr (9, [.int 0, u1, u2, u3, u4, .int 0, .int 0, .int 0, .int 0, u9, u10, u11, u12, u13, u14, .ref bmt, .int 0, u17, u18, u19, u20, u21, u22, u23, u24, u25, u26, u27, u28, u29, u30, u31, u32, u33, u34, u35, u36, u37, u38, u39, u40, u41, u42, u43, u44, u45, u46])), (bmt, .inl (g.2 2, 200, .inl mt))]) hD hS hA [0, 1] rfl
  refine va_calli (va_runV (As := [.int (xs 1), .int (xs 2), .int (xs 3), .int (xs 4), .int (xs 5)]) (rest := [.int 20]) ⟨hx, hb, hml, hown, hg⟩ (c_X9_feed l g _ m0 (u1 : Value) (u2 : Value) (u3 : Value) (u4 : Value) (u9 : Value) (u10 : Value) (u11 : Value) (u12 : Value) (u13 : Value) (u14 : Value) bmt mt (u17 : Value) (u18 : Value) (u19 : Value) (u20 : Value) (u21 : Value) (u22 : Value) (u23 : Value) (u24 : Value) (u25 : Value) (u26 : Value) (u27 : Value) (u28 : Value) (u29 : Value) (u30 : Value) (u31 : Value) (u32 : Value) (u33 : Value) (u34 : Value) (u35 : Value) (u36 : Value) (u37 : Value) (u38 : Value) (u39 : Value) (u40 : Value) (u41 : Value) (u42 : Value) (u43 : Value) (u44 : Value) (u45 : Value) (u46 : Value) (xs 1) (xs 2) (xs 3) (xs 4) (xs 5) ) (cwV 5 hg (z_gV mm_1198 mm_1199 mm_1200 mm_117 mm_1201) rfl rfl rfl (by decide +kernel) ⟨Nat.le_of_ble_eq_true rfl, Nat.le_of_ble_eq_true rfl⟩) ⟨(zA.pre [.ref m0, .int (xs 1), .int (xs 2), .int (xs 3), .int (xs 4), .int (xs 5)] hPc hK hDc hN).1, va_recv hK hPc (ci := 9) (q0 := 0) rfl rfl, (zA.pre [.ref m0, .int (xs 1), .int (xs 2), .int (xs 3), .int (xs 4), .int (xs 5)] hPc hK hDc hN).2⟩ rfl rfl hl.1 rfl (lv_room (Nat.le_of_ble_eq_true rfl)) dL_law_389 ⟨Nat.le_of_ble_eq_true rfl, Nat.le_of_ble_eq_true rfl⟩) hS (fun q _ h => hFc q h) hFc (fun r12 _ t H1 locs ht hvm hr12 hB hz1 hk1 hS => ?_)
  obtain ⟨hP1, hD1⟩ := hB
  rw [ht] at hP1
  obtain ⟨hP, hD⟩ := va_join (wr := []) (w1 := []) hP hD [0, 1] [] rfl rfl (by decide) (by decide) hk1 hFc hP1 hD1
  generalize H1 = H at hP hS ⊢
  refine W.widen (k := 210) (n := 203560) (Nat.le_of_ble_eq_true rfl) (Nat.le_of_ble_eq_true rfl) ?_
  have hP : zP g [] H := hP
  have hD : va_D A [] := hD
  obtain rfl := hr12
  refine lv_icmp_eq (tgt := 1533) hx hb dL_law_392 (by decide) (fun c13 => ?_) (fun c13 => ?_)
  · skip
    refine lv_iinc (v := 6) (lv' := [(3, .int 6), (0, .ref b), (1, .ref x0), (2, .ref m0)]) hx hb dL_law_1533 hl (k := 3) rfl (by decide) (by decide) rfl (fun ls hl => ?_)
    refine lv_goto (tgt := 18) hx hb dL_law_1536 (by decide) ?_
    refine lv_iload_n hx hb dL_law_18 rfl (lv_at hl 0 rfl) ?_
    refine lv_aload_n hx hb dL_law_19 rfl (lv_at hl 1 rfl) ?_
    refine va_slen hx hb hX hbl hbA hS dL_law_20 ?_
    refine W.eq (g2 := F0 m 21 ls [.int 6, .int 6]) rfl ?_
    refine lv_bipush (v := 6) hx hb dL_law_21 (by decide) ?_
    refine lv_isub hx hb dL_law_23 ?_
    refine lv_topi (fun x14 ex14 => ?_)
    obtain rfl : x14 = 0 := ex14.trans (by decide)
    refine lv_icmp_gt (tgt := 1539) hx hb dL_law_24 (by decide) (fun c15 => ?_) (fun c15 => ?_)
    · skip
      refine lv_iconst (v := 1) hx hb dL_law_1539 (by decide) ?_
      refine va_forget (fun q hq => hA' _ (hS.2.2 q hq)) ?_
      refine W.widen (k := 600000) (n := 7302250) (Nat.le_of_ble_eq_true rfl) (Nat.le_of_ble_eq_true rfl) ?_
      exact lw_ret hx hb hr hlocks dL_law_1540
    · skip
      exact absurd c15 (by decide)
  · skip
    exact absurd c13 (by decide)

set_option maxHeartbeats 4000000 in
set_option maxRecDepth 100000 in
theorem op_blurred {p : Program} {e : Env} {s : State} {m : MethodId} {below : List Frame} {meth : Method} {c : Code} (l : Launch) {b : Nat} {xs : Nat → Int32} (C0 : lw_At p s m meth c b 6 xs) (g : zG) (hK : zK g s) (hN : zN s) (x0 : Nat) (aC : Nat) (aW : Value) (aT : Value) (aB : Value) (aL : Value) (aG : Value) (aM : Value) (aA : Value) (aU : Value) (aE : Value) (aD : Value) (c0_ : Nat) (c0_1 : Nat) (c0_2 : Nat) (c0_3 : Nat) (c0_4 : Nat) (f0_1 : Nat → Int32) (f0_2 : Nat → Int32) (f0_3 : Nat → Int32) (f0_4 : Nat → Int32) (we0 : Int32) (se0 : Int32) (c1_ : Nat) (c1_1 : Nat) (c1_2 : Nat) (c1_3 : Nat) (c1_4 : Nat) (f1_1 : Nat → Int32) (f1_2 : Nat → Int32) (f1_3 : Nat → Int32) (f1_4 : Nat → Int32) (we1 : Int32) (se1 : Int32) (c2_ : Nat) (c2_1 : Nat) (c2_2 : Nat) (c2_3 : Nat) (c2_4 : Nat) (f2_1 : Nat → Int32) (f2_2 : Nat → Int32) (f2_3 : Nat → Int32) (f2_4 : Nat → Int32) (we2 : Int32) (se2 : Int32) (c3_ : Nat) (c3_1 : Nat) (c3_2 : Nat) (c3_3 : Nat) (c3_4 : Nat) (f3_1 : Nat → Int32) (f3_2 : Nat → Int32) (f3_3 : Nat → Int32) (f3_4 : Nat → Int32) (we3 : Int32) (se3 : Int32) (m0 : Nat) (bmu : Nat) (mu : Nat → Int32) (u2 : Value) (u3 : Value) (u4 : Value) (u9 : Value) (u10 : Value) (u11 : Value) (u12 : Value) (u13 : Value) (u14 : Value) (u15 : Value) (u17 : Value) (u18 : Value) (u19 : Value) (u20 : Value) (u21 : Value) (u22 : Value) (u23 : Value) (u24 : Value) (u25 : Value) (u26 : Value) (u27 : Value) (u28 : Value) (u29 : Value) (u30 : Value) (u31 : Value) (u32 : Value) (u33 : Value) (u34 : Value) (u35 : Value) (u36 : Value) (u37 : Value) (u38 : Value) (u39 : Value) (u40 : Value) (u41 : Value) (u42 : Value) (u43 : Value) (u44 : Value) (u45 : Value) (u46 : Value) (x0_hf0 : ∀ j, j < 32 → f0_1 j = -1) (x0_hf1 : ∀ j, j < 32 → f1_1 j = -1) (x0_hf2 : ∀ j, j < 32 → f2_1 j = -1) (x0_hf3 : ∀ j, j < 32 → f3_1 j = -1) (m0_hu : ∀ j, j < 128 → mu j = -1) {A : Nat → Prop} (hA : ∀ q, s.heap.size ≤ q → A q) (hA' : ∀ q, A q → s.heap.size ≤ q) (H : Heap) (locs : List Loc) (hS : va_S A s.heap H locs) (hP : zP g [(x0, .inr (8, [.ref aC, aW, aT, aB, aL, aG, aM, aA, aU, aE, aD, .int 0, .int 0])), (aC, .inl (g.2 4, 4, .inr (.inr (.inr (.inr (zS [some c0_, some c1_, some c2_, some c3_])))))), (c0_, .inr (3, [.int we0, .ref c0_1, .ref c0_2, .ref c0_3, .ref c0_4, .int se0])), (c0_1, .inl (g.2 0, 32, .inl f0_1)), (c0_2, .inl (g.2 0, 33, .inl f0_2)), (c0_3, .inl (g.2 0, 33, .inl f0_3)), (c0_4, .inl (g.2 0, 16, .inl f0_4)), (c1_, .inr (3, [.int we1, .ref c1_1, .ref c1_2, .ref c1_3, .ref c1_4, .int se1])), (c1_1, .inl (g.2 0, 32, .inl f1_1)), (c1_2, .inl (g.2 0, 33, .inl f1_2)), (c1_3, .inl (g.2 0, 33, .inl f1_3)), (c1_4, .inl (g.2 0, 16, .inl f1_4)), (c2_, .inr (3, [.int we2, .ref c2_1, .ref c2_2, .ref c2_3, .ref c2_4, .int se2])), (c2_1, .inl (g.2 0, 32, .inl f2_1)), (c2_2, .inl (g.2 0, 33, .inl f2_2)), (c2_3, .inl (g.2 0, 33, .inl f2_3)), (c2_4, .inl (g.2 0, 16, .inl f2_4)), (c3_, .inr (3, [.int we3, .ref c3_1, .ref c3_2, .ref c3_3, .ref c3_4, .int se3])), (c3_1, .inl (g.2 0, 32, .inl f3_1)), (c3_2, .inl (g.2 0, 33, .inl f3_2)), (c3_3, .inl (g.2 0, 33, .inl f3_3)), (c3_4, .inl (g.2 0, 16, .inl f3_4)), (m0, .inr (9, [.int 0, .ref bmu, u2, u3, u4, .int 0, .int 0, .int 0, .int 0, u9, u10, u11, u12, u13, u14, u15, .int 0, u17, u18, u19, u20, u21, u22, u23, u24, u25, u26, u27, u28, u29, u30, u31, u32, u33, u34, u35, u36, u37, u38, u39, u40, u41, u42, u43, u44, u45, u46])), (bmu, .inl (g.2 0, 128, .inl mu))] H) (hD : va_D A [(x0, .inr (8, [.ref aC, aW, aT, aB, aL, aG, aM, aA, aU, aE, aD, .int 0, .int 0])), (aC, .inl (g.2 4, 4, .inr (.inr (.inr (.inr (zS [some c0_, some c1_, some c2_, some c3_])))))), (c0_, .inr (3, [.int we0, .ref c0_1, .ref c0_2, .ref c0_3, .ref c0_4, .int se0])), (c0_1, .inl (g.2 0, 32, .inl f0_1)), (c0_2, .inl (g.2 0, 33, .inl f0_2)), (c0_3, .inl (g.2 0, 33, .inl f0_3)), (c0_4, .inl (g.2 0, 16, .inl f0_4)), (c1_, .inr (3, [.int we1, .ref c1_1, .ref c1_2, .ref c1_3, .ref c1_4, .int se1])), (c1_1, .inl (g.2 0, 32, .inl f1_1)), (c1_2, .inl (g.2 0, 33, .inl f1_2)), (c1_3, .inl (g.2 0, 33, .inl f1_3)), (c1_4, .inl (g.2 0, 16, .inl f1_4)), (c2_, .inr (3, [.int we2, .ref c2_1, .ref c2_2, .ref c2_3, .ref c2_4, .int se2])), (c2_1, .inl (g.2 0, 32, .inl f2_1)), (c2_2, .inl (g.2 0, 33, .inl f2_2)), (c2_3, .inl (g.2 0, 33, .inl f2_3)), (c2_4, .inl (g.2 0, 16, .inl f2_4)), (c3_, .inr (3, [.int we3, .ref c3_1, .ref c3_2, .ref c3_3, .ref c3_4, .int se3])), (c3_1, .inl (g.2 0, 32, .inl f3_1)), (c3_2, .inl (g.2 0, 33, .inl f3_2)), (c3_3, .inl (g.2 0, 33, .inl f3_3)), (c3_4, .inl (g.2 0, 16, .inl f3_4)), (m0, .inr (9, [.int 0, .ref bmu, u2, u3, u4, .int 0, .int 0, .int 0, .int 0, u9, u10, u11, u12, u13, u14, u15, .int 0, u17, u18, u19, u20, u21, u22, u23, u24, u25, u26, u27, u28, u29, u30, u31, u32, u33, u34, u35, u36, u37, u38, u39, u40, u41, u42, u43, u44, u45, u46])), (bmu, .inl (g.2 0, 128, .inl mu))]) (ls : Array Slot) (hl : lv_has ls 4 [(0, .ref b), (1, .ref x0), (2, .ref m0), (3, .int 0)]) : W p l e room_1 s m #[Value.ref b] below meth c H locs 210 203560 (lw_Z below #[Value.ref b] s) (F0 m 397 ls []) := by
  obtain ⟨hx, hb, hr, hml, hown, hts, hX, hbl, hlocks, hgv⟩ := C0
  have hg : ∀ w ∈ zGW, w.before #[Value.ref b] s = true := fun w h => hts w (List.mem_filter.mp h).1
  have hown : s.vm.findClass RL = some m.cls := hown
  have hbA : ¬ A b := fun h => absurd (hA' b h) (Nat.not_le.mpr hbl)
  refine lv_aload_n hx hb dL_law_397 rfl (lv_at hl 1 rfl) ?_
  refine lv_aload_n hx hb dL_law_398 rfl (lv_at hl 0 rfl) ?_
  refine lv_iload_n hx hb dL_law_399 rfl (lv_at hl 3 rfl) ?_
  refine lv_iconst (v := 1) hx hb dL_law_400 (by decide) ?_
  refine lv_iadd hx hb dL_law_401 ?_
  refine lv_topi (fun x1 ex1 => ?_)
  obtain rfl : x1 = 1 := ex1.trans (by decide)
  refine va_sld hx hb hX hbl hbA hS (z_in (by decide : (1 : Int32).toInt = 1) (by omega) (by omega)) dL_law_402 ?_
  refine W.eq (g2 := F0 m 403 ls [.int (xs 1), .ref x0]) rfl ?_
  refine lv_aload_n hx hb dL_law_403 rfl (lv_at hl 0 rfl) ?_
  refine lv_iload_n hx hb dL_law_404 rfl (lv_at hl 3 rfl) ?_
  refine lv_iconst (v := 2) hx hb dL_law_405 (by decide) ?_
  refine lv_iadd hx hb dL_law_406 ?_
  refine lv_topi (fun x2 ex2 => ?_)
  obtain rfl : x2 = 2 := ex2.trans (by decide)
  refine va_sld hx hb hX hbl hbA hS (z_in (by decide : (2 : Int32).toInt = 2) (by omega) (by omega)) dL_law_407 ?_
  refine W.eq (g2 := F0 m 408 ls [.int (xs 2), .int (xs 1), .ref x0]) rfl ?_
  refine lv_aload_n hx hb dL_law_408 rfl (lv_at hl 0 rfl) ?_
  refine lv_iload_n hx hb dL_law_409 rfl (lv_at hl 3 rfl) ?_
  refine lv_iconst (v := 3) hx hb dL_law_410 (by decide) ?_
  refine lv_iadd hx hb dL_law_411 ?_
  refine lv_topi (fun x3 ex3 => ?_)
  obtain rfl : x3 = 3 := ex3.trans (by decide)
  refine va_sld hx hb hX hbl hbA hS (z_in (by decide : (3 : Int32).toInt = 3) (by omega) (by omega)) dL_law_412 ?_
  refine W.eq (g2 := F0 m 413 ls [.int (xs 3), .int (xs 2), .int (xs 1), .ref x0]) rfl ?_
  have hPc := hP.sub (ws' := [(x0, .inr (8, [.ref aC, aW, aT, aB, aL, aG, aM, aA, aU, aE, aD, .int 0, .int 0])), (aC, .inl (g.2 4, 4, .inr (.inr (.inr (.inr (zS [some c0_, some c1_, some c2_, some c3_])))))), (c0_, .inr (3, [.int we0, .ref c0_1, .ref c0_2, .ref c0_3, .ref c0_4, .int se0])), (c0_1, .inl (g.2 0, 32, .inl f0_1)), (c0_2, .inl (g.2 0, 33, .inl f0_2)), (c0_3, .inl (g.2 0, 33, .inl f0_3)), (c0_4, .inl (g.2 0, 16, .inl f0_4)), (c1_, .inr (3, [.int we1, .ref c1_1, .ref c1_2, .ref c1_3, .ref c1_4, .int se1])), (c1_1, .inl (g.2 0, 32, .inl f1_1)), (c1_2, .inl (g.2 0, 33, .inl f1_2)), (c1_3, .inl (g.2 0, 33, .inl f1_3)), (c1_4, .inl (g.2 0, 16, .inl f1_4)), (c2_, .inr (3, [.int we2, .ref c2_1, .ref c2_2, .ref c2_3, .ref c2_4, .int se2])), (c2_1, .inl (g.2 0, 32, .inl f2_1)), (c2_2, .inl (g.2 0, 33, .inl f2_2)), (c2_3, .inl (g.2 0, 33, .inl f2_3)), (c2_4, .inl (g.2 0, 16, .inl f2_4)), (c3_, .inr (3, [.int we3, .ref c3_1, .ref c3_2, .ref c3_3, .ref c3_4, .int se3])), (c3_1, .inl (g.2 0, 32, .inl f3_1)), (c3_2, .inl (g.2 0, 33, .inl f3_2)), (c3_3, .inl (g.2 0, 33, .inl f3_3)), (c3_4, .inl (g.2 0, 16, .inl f3_4))]) [0, 1, 2, 3, 4, 5, 6, 7, 8, 9, 10, 11, 12, 13, 14, 15, 16, 17, 18, 19, 20, 21] rfl
  refine zc_i (va_runV (As := [.int (xs 1), .int (xs 2), .int (xs 3)]) (rest := []) ⟨hx, hb, hml, hown, hg⟩ (c_X8_blurred l g x0 aC (aW : Value) (aT : Value) (aB : Value) (aL : Value) (aG : Value) (aM : Value) (aA : Value) (aU : Value) (aE : Value) (aD : Value) c0_ c0_1 c0_2 c0_3 c0_4 f0_1 f0_2 f0_3 f0_4 we0 se0 c1_ c1_1 c1_2 c1_3 c1_4 f1_1 f1_2 f1_3 f1_4 we1 se1 c2_ c2_1 c2_2 c2_3 c2_4 f2_1 f2_2 f2_3 f2_4 we2 se2 c3_ c3_1 c3_2 c3_3 c3_4 f3_1 f3_2 f3_3 f3_4 we3 se3 (xs 1) (xs 2) (xs 3) (by first | omega | assumption | decide | (rw [nI_toInt] <;> omega)) (by first | omega | assumption | decide | (rw [nI_toInt] <;> omega)) (by first | omega | assumption | decide | (rw [nI_toInt] <;> omega)) (by first | omega | assumption | decide | (rw [nI_toInt] <;> omega))) (cwV 3 hg (z_gV mm_525 mm_526 mm_527 mm_108 mm_528) rfl rfl rfl (by decide +kernel) ⟨Nat.le_of_ble_eq_true rfl, Nat.le_of_ble_eq_true rfl⟩) ⟨(zR.pre [.ref x0, .int (xs 1), .int (xs 2), .int (xs 3)] hPc hK hN).1, va_recv hK hPc (ci := 8) (q0 := 0) rfl rfl, (zR.pre [.ref x0, .int (xs 1), .int (xs 2), .int (xs 3)] hPc hK hN).2⟩ rfl rfl hl.1 rfl (lv_room (Nat.le_of_ble_eq_true rfl)) dL_law_413 ⟨Nat.le_of_ble_eq_true rfl, Nat.le_of_ble_eq_true rfl⟩) (fun r4 hr4 => ?_)
  rcases hr4 with hr4 | hr4 | hr4
  · skip
    obtain ⟨rfl, h5⟩ := hr4
    have h5 : ¬ (0 ≤ (xs 1).toInt ∧ (xs 1).toInt ≤ 3 ∧ (0 ≤ (xs 2).toInt ∧ (xs 2).toInt ≤ 15) ∧ 0 ≤ (xs 3).toInt ∧ (xs 3).toInt ≤ 4) := h5
    refine lv_aload_n hx hb dL_law_416 rfl (lv_at hl 2 rfl) ?_
    refine lv_aload_n hx hb dL_law_417 rfl (lv_at hl 0 rfl) ?_
    refine lv_iload_n hx hb dL_law_418 rfl (lv_at hl 3 rfl) ?_
    refine lv_iconst (v := 1) hx hb dL_law_419 (by decide) ?_
    refine lv_iadd hx hb dL_law_420 ?_
    refine lv_topi (fun x6 ex6 => ?_)
    obtain rfl : x6 = 1 := ex6.trans (by decide)
    refine va_sld hx hb hX hbl hbA hS (z_in (by decide : (1 : Int32).toInt = 1) (by omega) (by omega)) dL_law_421 ?_
    refine W.eq (g2 := F0 m 422 ls [.int (xs 1), .ref m0, .int (-1)]) rfl ?_
    refine lv_aload_n hx hb dL_law_422 rfl (lv_at hl 0 rfl) ?_
    refine lv_iload_n hx hb dL_law_423 rfl (lv_at hl 3 rfl) ?_
    refine lv_iconst (v := 2) hx hb dL_law_424 (by decide) ?_
    refine lv_iadd hx hb dL_law_425 ?_
    refine lv_topi (fun x7 ex7 => ?_)
    obtain rfl : x7 = 2 := ex7.trans (by decide)
    refine va_sld hx hb hX hbl hbA hS (z_in (by decide : (2 : Int32).toInt = 2) (by omega) (by omega)) dL_law_426 ?_
    refine W.eq (g2 := F0 m 427 ls [.int (xs 2), .int (xs 1), .ref m0, .int (-1)]) rfl ?_
    refine lv_aload_n hx hb dL_law_427 rfl (lv_at hl 0 rfl) ?_
    refine lv_iload_n hx hb dL_law_428 rfl (lv_at hl 3 rfl) ?_
    refine lv_iconst (v := 3) hx hb dL_law_429 (by decide) ?_
    refine lv_iadd hx hb dL_law_430 ?_
    refine lv_topi (fun x8 ex8 => ?_)
    obtain rfl : x8 = 3 := ex8.trans (by decide)
    refine va_sld hx hb hX hbl hbA hS (z_in (by decide : (3 : Int32).toInt = 3) (by omega) (by omega)) dL_law_431 ?_
    refine W.eq (g2 := F0 m 432 ls [.int (xs 3), .int (xs 2), .int (xs 1), .ref m0, .int (-1)]) rfl ?_
    have hPc := hP.sub (ws' := [(m0, .inr (9, [.int 0, .ref bmu, u2, u3, u4, .int 0, .int 0, .int 0, .int 0, u9, u10, u11, u12, u13, u14, u15, .int 0, u17, u18, u19, u20, u21, u22, u23, u24, u25, u26, u27, u28, u29, u30, u31, u32, u33, u34, u35, u36, u37, u38, u39, u40, u41, u42, u43, u44, u45, u46])), (bmu, .inl (g.2 0, 128, .inl mu))]) [22, 23] rfl
    refine zc_i (va_runV (As := [.int (xs 1), .int (xs 2), .int (xs 3)]) (rest := [.int (-1)]) ⟨hx, hb, hml, hown, hg⟩ (c_X9_blurred l g m0 bmu mu (u2 : Value) (u3 : Value) (u4 : Value) (u9 : Value) (u10 : Value) (u11 : Value) (u12 : Value) (u13 : Value) (u14 : Value) (u15 : Value) (u17 : Value) (u18 : Value) (u19 : Value) (u20 : Value) (u21 : Value) (u22 : Value) (u23 : Value) (u24 : Value) (u25 : Value) (u26 : Value) (u27 : Value) (u28 : Value) (u29 : Value) (u30 : Value) (u31 : Value) (u32 : Value) (u33 : Value) (u34 : Value) (u35 : Value) (u36 : Value) (u37 : Value) (u38 : Value) (u39 : Value) (u40 : Value) (u41 : Value) (u42 : Value) (u43 : Value) (u44 : Value) (u45 : Value) (u46 : Value) (xs 1) (xs 2) (xs 3) (by first | omega | assumption | decide | (rw [nI_toInt] <;> omega))) (cwV 3 hg (z_gV mm_1128 mm_1129 mm_1130 mm_117 mm_1131) rfl rfl rfl (by decide +kernel) ⟨Nat.le_of_ble_eq_true rfl, Nat.le_of_ble_eq_true rfl⟩) ⟨(zR.pre [.ref m0, .int (xs 1), .int (xs 2), .int (xs 3)] hPc hK hN).1, va_recv hK hPc (ci := 9) (q0 := 0) rfl rfl, (zR.pre [.ref m0, .int (xs 1), .int (xs 2), .int (xs 3)] hPc hK hN).2⟩ rfl rfl hl.1 rfl (lv_room (Nat.le_of_ble_eq_true rfl)) dL_law_432 ⟨Nat.le_of_ble_eq_true rfl, Nat.le_of_ble_eq_true rfl⟩) (fun r9 hr9 => ?_)
    rcases hr9 with hr9 | hr9 | hr9
    · skip
      obtain ⟨rfl, h10⟩ := hr9
      have h10 : ¬ (0 ≤ (xs 1).toInt ∧ (xs 1).toInt ≤ 3 ∧ (0 ≤ (xs 2).toInt ∧ (xs 2).toInt ≤ 15) ∧ 0 ≤ (xs 3).toInt ∧ (xs 3).toInt ≤ 4) := h10
      refine lv_icmp_eq (tgt := 1533) hx hb dL_law_435 (by decide) (fun c11 => ?_) (fun c11 => ?_)
      · skip
        refine lv_iinc (v := 6) (lv' := [(3, .int 6), (0, .ref b), (1, .ref x0), (2, .ref m0)]) hx hb dL_law_1533 hl (k := 3) rfl (by decide) (by decide) rfl (fun ls hl => ?_)
        refine lv_goto (tgt := 18) hx hb dL_law_1536 (by decide) ?_
        refine lv_iload_n hx hb dL_law_18 rfl (lv_at hl 0 rfl) ?_
        refine lv_aload_n hx hb dL_law_19 rfl (lv_at hl 1 rfl) ?_
        refine va_slen hx hb hX hbl hbA hS dL_law_20 ?_
        refine W.eq (g2 := F0 m 21 ls [.int 6, .int 6]) rfl ?_
        refine lv_bipush (v := 6) hx hb dL_law_21 (by decide) ?_
        refine lv_isub hx hb dL_law_23 ?_
        refine lv_topi (fun x12 ex12 => ?_)
        obtain rfl : x12 = 0 := ex12.trans (by decide)
        refine lv_icmp_gt (tgt := 1539) hx hb dL_law_24 (by decide) (fun c13 => ?_) (fun c13 => ?_)
        · skip
          refine lv_iconst (v := 1) hx hb dL_law_1539 (by decide) ?_
          refine va_forget (fun q hq => hA' _ (hS.2.2 q hq)) ?_
          refine W.widen (k := 600000) (n := 7302250) (Nat.le_of_ble_eq_true rfl) (Nat.le_of_ble_eq_true rfl) ?_
          exact lw_ret hx hb hr hlocks dL_law_1540
        · skip
          exact absurd c13 (by decide)
      · skip
        exact absurd c11 (by decide)
    · skip
      obtain ⟨hqr9, h14, h15⟩ := hr9
      subst r9
      have h14 : 0 ≤ (xs 1).toInt ∧ (xs 1).toInt ≤ 3 ∧ (0 ≤ (xs 2).toInt ∧ (xs 2).toInt ≤ 15) ∧ 0 ≤ (xs 3).toInt ∧ (xs 3).toInt ≤ 4 := h14
      have h15 : (xs 3).toInt = 0 := h15
      exfalso
      omega
    · skip
      obtain ⟨rfl, h16, h17⟩ := hr9
      have h16 : 0 ≤ (xs 1).toInt ∧ (xs 1).toInt ≤ 3 ∧ (0 ≤ (xs 2).toInt ∧ (xs 2).toInt ≤ 15) ∧ 0 ≤ (xs 3).toInt ∧ (xs 3).toInt ≤ 4 := h16
      have h17 : 1 ≤ (xs 3).toInt := h17
      exfalso
      omega
  · skip
    obtain ⟨hqr4, h18, h19⟩ := hr4
    subst r4
    have h18 : 0 ≤ (xs 1).toInt ∧ (xs 1).toInt ≤ 3 ∧ (0 ≤ (xs 2).toInt ∧ (xs 2).toInt ≤ 15) ∧ 0 ≤ (xs 3).toInt ∧ (xs 3).toInt ≤ 4 := h18
    have h19 : (xs 3).toInt = 0 := h19
    refine lv_aload_n hx hb dL_law_416 rfl (lv_at hl 2 rfl) ?_
    refine lv_aload_n hx hb dL_law_417 rfl (lv_at hl 0 rfl) ?_
    refine lv_iload_n hx hb dL_law_418 rfl (lv_at hl 3 rfl) ?_
    refine lv_iconst (v := 1) hx hb dL_law_419 (by decide) ?_
    refine lv_iadd hx hb dL_law_420 ?_
    refine lv_topi (fun x20 ex20 => ?_)
    obtain rfl : x20 = 1 := ex20.trans (by decide)
    refine va_sld hx hb hX hbl hbA hS (z_in (by decide : (1 : Int32).toInt = 1) (by omega) (by omega)) dL_law_421 ?_
    refine W.eq (g2 := F0 m 422 ls [.int (xs 1), .ref m0, .int (xs 2)]) rfl ?_
    refine lv_aload_n hx hb dL_law_422 rfl (lv_at hl 0 rfl) ?_
    refine lv_iload_n hx hb dL_law_423 rfl (lv_at hl 3 rfl) ?_
    refine lv_iconst (v := 2) hx hb dL_law_424 (by decide) ?_
    refine lv_iadd hx hb dL_law_425 ?_
    refine lv_topi (fun x21 ex21 => ?_)
    obtain rfl : x21 = 2 := ex21.trans (by decide)
    refine va_sld hx hb hX hbl hbA hS (z_in (by decide : (2 : Int32).toInt = 2) (by omega) (by omega)) dL_law_426 ?_
    refine W.eq (g2 := F0 m 427 ls [.int (xs 2), .int (xs 1), .ref m0, .int (xs 2)]) rfl ?_
    refine lv_aload_n hx hb dL_law_427 rfl (lv_at hl 0 rfl) ?_
    refine lv_iload_n hx hb dL_law_428 rfl (lv_at hl 3 rfl) ?_
    refine lv_iconst (v := 3) hx hb dL_law_429 (by decide) ?_
    refine lv_iadd hx hb dL_law_430 ?_
    refine lv_topi (fun x22 ex22 => ?_)
    obtain rfl : x22 = 3 := ex22.trans (by decide)
    refine va_sld hx hb hX hbl hbA hS (z_in (by decide : (3 : Int32).toInt = 3) (by omega) (by omega)) dL_law_431 ?_
    refine W.eq (g2 := F0 m 432 ls [.int (xs 3), .int (xs 2), .int (xs 1), .ref m0, .int (xs 2)]) rfl ?_
    have hPc := hP.sub (ws' := [(m0, .inr (9, [.int 0, .ref bmu, u2, u3, u4, .int 0, .int 0, .int 0, .int 0, u9, u10, u11, u12, u13, u14, u15, .int 0, u17, u18, u19, u20, u21, u22, u23, u24, u25, u26, u27, u28, u29, u30, u31, u32, u33, u34, u35, u36, u37, u38, u39, u40, u41, u42, u43, u44, u45, u46])), (bmu, .inl (g.2 0, 128, .inl mu))]) [22, 23] rfl
    refine zc_i (va_runV (As := [.int (xs 1), .int (xs 2), .int (xs 3)]) (rest := [.int (xs 2)]) ⟨hx, hb, hml, hown, hg⟩ (c_X9_blurred l g m0 bmu mu (u2 : Value) (u3 : Value) (u4 : Value) (u9 : Value) (u10 : Value) (u11 : Value) (u12 : Value) (u13 : Value) (u14 : Value) (u15 : Value) (u17 : Value) (u18 : Value) (u19 : Value) (u20 : Value) (u21 : Value) (u22 : Value) (u23 : Value) (u24 : Value) (u25 : Value) (u26 : Value) (u27 : Value) (u28 : Value) (u29 : Value) (u30 : Value) (u31 : Value) (u32 : Value) (u33 : Value) (u34 : Value) (u35 : Value) (u36 : Value) (u37 : Value) (u38 : Value) (u39 : Value) (u40 : Value) (u41 : Value) (u42 : Value) (u43 : Value) (u44 : Value) (u45 : Value) (u46 : Value) (xs 1) (xs 2) (xs 3) (by first | omega | assumption | decide | (rw [nI_toInt] <;> omega))) (cwV 3 hg (z_gV mm_1128 mm_1129 mm_1130 mm_117 mm_1131) rfl rfl rfl (by decide +kernel) ⟨Nat.le_of_ble_eq_true rfl, Nat.le_of_ble_eq_true rfl⟩) ⟨(zR.pre [.ref m0, .int (xs 1), .int (xs 2), .int (xs 3)] hPc hK hN).1, va_recv hK hPc (ci := 9) (q0 := 0) rfl rfl, (zR.pre [.ref m0, .int (xs 1), .int (xs 2), .int (xs 3)] hPc hK hN).2⟩ rfl rfl hl.1 rfl (lv_room (Nat.le_of_ble_eq_true rfl)) dL_law_432 ⟨Nat.le_of_ble_eq_true rfl, Nat.le_of_ble_eq_true rfl⟩) (fun r23 hr23 => ?_)
    rcases hr23 with hr23 | hr23 | hr23
    · skip
      obtain ⟨rfl, h24⟩ := hr23
      have h24 : ¬ (0 ≤ (xs 1).toInt ∧ (xs 1).toInt ≤ 3 ∧ (0 ≤ (xs 2).toInt ∧ (xs 2).toInt ≤ 15) ∧ 0 ≤ (xs 3).toInt ∧ (xs 3).toInt ≤ 4) := h24
      exfalso
      omega
    · skip
      obtain ⟨hqr23, h25, h26⟩ := hr23
      subst r23
      have h25 : 0 ≤ (xs 1).toInt ∧ (xs 1).toInt ≤ 3 ∧ (0 ≤ (xs 2).toInt ∧ (xs 2).toInt ≤ 15) ∧ 0 ≤ (xs 3).toInt ∧ (xs 3).toInt ≤ 4 := h25
      have h26 : (xs 3).toInt = 0 := h26
      refine lv_icmp_eq (tgt := 1533) hx hb dL_law_435 (by decide) (fun c27 => ?_) (fun c27 => absurd rfl c27)
      refine lv_iinc (v := 6) (lv' := [(3, .int 6), (0, .ref b), (1, .ref x0), (2, .ref m0)]) hx hb dL_law_1533 hl (k := 3) rfl (by decide) (by decide) rfl (fun ls hl => ?_)
      refine lv_goto (tgt := 18) hx hb dL_law_1536 (by decide) ?_
      refine lv_iload_n hx hb dL_law_18 rfl (lv_at hl 0 rfl) ?_
      refine lv_aload_n hx hb dL_law_19 rfl (lv_at hl 1 rfl) ?_
      refine va_slen hx hb hX hbl hbA hS dL_law_20 ?_
      refine W.eq (g2 := F0 m 21 ls [.int 6, .int 6]) rfl ?_
      refine lv_bipush (v := 6) hx hb dL_law_21 (by decide) ?_
      refine lv_isub hx hb dL_law_23 ?_
      refine lv_topi (fun x28 ex28 => ?_)
      obtain rfl : x28 = 0 := ex28.trans (by decide)
      refine lv_icmp_gt (tgt := 1539) hx hb dL_law_24 (by decide) (fun c29 => ?_) (fun c29 => ?_)
      · skip
        refine lv_iconst (v := 1) hx hb dL_law_1539 (by decide) ?_
        refine va_forget (fun q hq => hA' _ (hS.2.2 q hq)) ?_
        refine W.widen (k := 600000) (n := 7302250) (Nat.le_of_ble_eq_true rfl) (Nat.le_of_ble_eq_true rfl) ?_
        exact lw_ret hx hb hr hlocks dL_law_1540
      · skip
        exact absurd c29 (by decide)
    · skip
      obtain ⟨rfl, h30, h31⟩ := hr23
      have h30 : 0 ≤ (xs 1).toInt ∧ (xs 1).toInt ≤ 3 ∧ (0 ≤ (xs 2).toInt ∧ (xs 2).toInt ≤ 15) ∧ 0 ≤ (xs 3).toInt ∧ (xs 3).toInt ≤ 4 := h30
      have h31 : 1 ≤ (xs 3).toInt := h31
      exfalso
      omega
  · skip
    obtain ⟨rfl, h32, h33⟩ := hr4
    have h32 : 0 ≤ (xs 1).toInt ∧ (xs 1).toInt ≤ 3 ∧ (0 ≤ (xs 2).toInt ∧ (xs 2).toInt ≤ 15) ∧ 0 ≤ (xs 3).toInt ∧ (xs 3).toInt ≤ 4 := h32
    have h33 : 1 ≤ (xs 3).toInt := h33
    refine lv_aload_n hx hb dL_law_416 rfl (lv_at hl 2 rfl) ?_
    refine lv_aload_n hx hb dL_law_417 rfl (lv_at hl 0 rfl) ?_
    refine lv_iload_n hx hb dL_law_418 rfl (lv_at hl 3 rfl) ?_
    refine lv_iconst (v := 1) hx hb dL_law_419 (by decide) ?_
    refine lv_iadd hx hb dL_law_420 ?_
    refine lv_topi (fun x34 ex34 => ?_)
    obtain rfl : x34 = 1 := ex34.trans (by decide)
    refine va_sld hx hb hX hbl hbA hS (z_in (by decide : (1 : Int32).toInt = 1) (by omega) (by omega)) dL_law_421 ?_
    refine W.eq (g2 := F0 m 422 ls [.int (xs 1), .ref m0, .int 32]) rfl ?_
    refine lv_aload_n hx hb dL_law_422 rfl (lv_at hl 0 rfl) ?_
    refine lv_iload_n hx hb dL_law_423 rfl (lv_at hl 3 rfl) ?_
    refine lv_iconst (v := 2) hx hb dL_law_424 (by decide) ?_
    refine lv_iadd hx hb dL_law_425 ?_
    refine lv_topi (fun x35 ex35 => ?_)
    obtain rfl : x35 = 2 := ex35.trans (by decide)
    refine va_sld hx hb hX hbl hbA hS (z_in (by decide : (2 : Int32).toInt = 2) (by omega) (by omega)) dL_law_426 ?_
    refine W.eq (g2 := F0 m 427 ls [.int (xs 2), .int (xs 1), .ref m0, .int 32]) rfl ?_
    refine lv_aload_n hx hb dL_law_427 rfl (lv_at hl 0 rfl) ?_
    refine lv_iload_n hx hb dL_law_428 rfl (lv_at hl 3 rfl) ?_
    refine lv_iconst (v := 3) hx hb dL_law_429 (by decide) ?_
    refine lv_iadd hx hb dL_law_430 ?_
    refine lv_topi (fun x36 ex36 => ?_)
    obtain rfl : x36 = 3 := ex36.trans (by decide)
    refine va_sld hx hb hX hbl hbA hS (z_in (by decide : (3 : Int32).toInt = 3) (by omega) (by omega)) dL_law_431 ?_
    refine W.eq (g2 := F0 m 432 ls [.int (xs 3), .int (xs 2), .int (xs 1), .ref m0, .int 32]) rfl ?_
    have hPc := hP.sub (ws' := [(m0, .inr (9, [.int 0, .ref bmu, u2, u3, u4, .int 0, .int 0, .int 0, .int 0, u9, u10, u11, u12, u13, u14, u15, .int 0, u17, u18, u19, u20, u21, u22, u23, u24, u25, u26, u27, u28, u29, u30, u31, u32, u33, u34, u35, u36, u37, u38, u39, u40, u41, u42, u43, u44, u45, u46])), (bmu, .inl (g.2 0, 128, .inl mu))]) [22, 23] rfl
    refine zc_i (va_runV (As := [.int (xs 1), .int (xs 2), .int (xs 3)]) (rest := [.int 32]) ⟨hx, hb, hml, hown, hg⟩ (c_X9_blurred l g m0 bmu mu (u2 : Value) (u3 : Value) (u4 : Value) (u9 : Value) (u10 : Value) (u11 : Value) (u12 : Value) (u13 : Value) (u14 : Value) (u15 : Value) (u17 : Value) (u18 : Value) (u19 : Value) (u20 : Value) (u21 : Value) (u22 : Value) (u23 : Value) (u24 : Value) (u25 : Value) (u26 : Value) (u27 : Value) (u28 : Value) (u29 : Value) (u30 : Value) (u31 : Value) (u32 : Value) (u33 : Value) (u34 : Value) (u35 : Value) (u36 : Value) (u37 : Value) (u38 : Value) (u39 : Value) (u40 : Value) (u41 : Value) (u42 : Value) (u43 : Value) (u44 : Value) (u45 : Value) (u46 : Value) (xs 1) (xs 2) (xs 3) (by first | omega | assumption | decide | (rw [nI_toInt] <;> omega))) (cwV 3 hg (z_gV mm_1128 mm_1129 mm_1130 mm_117 mm_1131) rfl rfl rfl (by decide +kernel) ⟨Nat.le_of_ble_eq_true rfl, Nat.le_of_ble_eq_true rfl⟩) ⟨(zR.pre [.ref m0, .int (xs 1), .int (xs 2), .int (xs 3)] hPc hK hN).1, va_recv hK hPc (ci := 9) (q0 := 0) rfl rfl, (zR.pre [.ref m0, .int (xs 1), .int (xs 2), .int (xs 3)] hPc hK hN).2⟩ rfl rfl hl.1 rfl (lv_room (Nat.le_of_ble_eq_true rfl)) dL_law_432 ⟨Nat.le_of_ble_eq_true rfl, Nat.le_of_ble_eq_true rfl⟩) (fun r37 hr37 => ?_)
    rcases hr37 with hr37 | hr37 | hr37
    · skip
      obtain ⟨rfl, h38⟩ := hr37
      have h38 : ¬ (0 ≤ (xs 1).toInt ∧ (xs 1).toInt ≤ 3 ∧ (0 ≤ (xs 2).toInt ∧ (xs 2).toInt ≤ 15) ∧ 0 ≤ (xs 3).toInt ∧ (xs 3).toInt ≤ 4) := h38
      exfalso
      omega
    · skip
      obtain ⟨hqr37, h39, h40⟩ := hr37
      subst r37
      have h39 : 0 ≤ (xs 1).toInt ∧ (xs 1).toInt ≤ 3 ∧ (0 ≤ (xs 2).toInt ∧ (xs 2).toInt ≤ 15) ∧ 0 ≤ (xs 3).toInt ∧ (xs 3).toInt ≤ 4 := h39
      have h40 : (xs 3).toInt = 0 := h40
      exfalso
      omega
    · skip
      obtain ⟨rfl, h41, h42⟩ := hr37
      have h41 : 0 ≤ (xs 1).toInt ∧ (xs 1).toInt ≤ 3 ∧ (0 ≤ (xs 2).toInt ∧ (xs 2).toInt ≤ 15) ∧ 0 ≤ (xs 3).toInt ∧ (xs 3).toInt ≤ 4 := h41
      have h42 : 1 ≤ (xs 3).toInt := h42
      refine lv_icmp_eq (tgt := 1533) hx hb dL_law_435 (by decide) (fun c43 => ?_) (fun c43 => ?_)
      · skip
        refine lv_iinc (v := 6) (lv' := [(3, .int 6), (0, .ref b), (1, .ref x0), (2, .ref m0)]) hx hb dL_law_1533 hl (k := 3) rfl (by decide) (by decide) rfl (fun ls hl => ?_)
        refine lv_goto (tgt := 18) hx hb dL_law_1536 (by decide) ?_
        refine lv_iload_n hx hb dL_law_18 rfl (lv_at hl 0 rfl) ?_
        refine lv_aload_n hx hb dL_law_19 rfl (lv_at hl 1 rfl) ?_
        refine va_slen hx hb hX hbl hbA hS dL_law_20 ?_
        refine W.eq (g2 := F0 m 21 ls [.int 6, .int 6]) rfl ?_
        refine lv_bipush (v := 6) hx hb dL_law_21 (by decide) ?_
        refine lv_isub hx hb dL_law_23 ?_
        refine lv_topi (fun x44 ex44 => ?_)
        obtain rfl : x44 = 0 := ex44.trans (by decide)
        refine lv_icmp_gt (tgt := 1539) hx hb dL_law_24 (by decide) (fun c45 => ?_) (fun c45 => ?_)
        · skip
          refine lv_iconst (v := 1) hx hb dL_law_1539 (by decide) ?_
          refine va_forget (fun q hq => hA' _ (hS.2.2 q hq)) ?_
          refine W.widen (k := 600000) (n := 7302250) (Nat.le_of_ble_eq_true rfl) (Nat.le_of_ble_eq_true rfl) ?_
          exact lw_ret hx hb hr hlocks dL_law_1540
        · skip
          exact absurd c45 (by decide)
      · skip
        exact absurd c43 (by decide)

set_option maxHeartbeats 4000000 in
set_option maxRecDepth 100000 in
theorem op_size {p : Program} {e : Env} {s : State} {m : MethodId} {below : List Frame} {meth : Method} {c : Code} (l : Launch) {b : Nat} {xs : Nat → Int32} (C0 : lw_At p s m meth c b 6 xs) (g : zG) (hK : zK g s) (hN : zN s) (x0 : Nat) (aC : Nat) (aW : Value) (aT : Value) (aB : Value) (aL : Value) (aG : Value) (aM : Value) (aA : Value) (aU : Value) (aE : Value) (aD : Value) (c0_ : Nat) (c0_1 : Nat) (c0_2 : Nat) (c0_3 : Nat) (c0_4 : Nat) (f0_1 : Nat → Int32) (f0_2 : Nat → Int32) (f0_3 : Nat → Int32) (f0_4 : Nat → Int32) (we0 : Int32) (se0 : Int32) (c1_ : Nat) (c1_1 : Nat) (c1_2 : Nat) (c1_3 : Nat) (c1_4 : Nat) (f1_1 : Nat → Int32) (f1_2 : Nat → Int32) (f1_3 : Nat → Int32) (f1_4 : Nat → Int32) (we1 : Int32) (se1 : Int32) (c2_ : Nat) (c2_1 : Nat) (c2_2 : Nat) (c2_3 : Nat) (c2_4 : Nat) (f2_1 : Nat → Int32) (f2_2 : Nat → Int32) (f2_3 : Nat → Int32) (f2_4 : Nat → Int32) (we2 : Int32) (se2 : Int32) (c3_ : Nat) (c3_1 : Nat) (c3_2 : Nat) (c3_3 : Nat) (c3_4 : Nat) (f3_1 : Nat → Int32) (f3_2 : Nat → Int32) (f3_3 : Nat → Int32) (f3_4 : Nat → Int32) (we3 : Int32) (se3 : Int32) (m0 : Nat) (bmu : Nat) (mu : Nat → Int32) (u2 : Value) (u3 : Value) (u4 : Value) (u9 : Value) (u10 : Value) (u11 : Value) (u12 : Value) (u13 : Value) (u14 : Value) (u15 : Value) (u17 : Value) (u18 : Value) (u19 : Value) (u20 : Value) (u21 : Value) (u22 : Value) (u23 : Value) (u24 : Value) (u25 : Value) (u26 : Value) (u27 : Value) (u28 : Value) (u29 : Value) (u30 : Value) (u31 : Value) (u32 : Value) (u33 : Value) (u34 : Value) (u35 : Value) (u36 : Value) (u37 : Value) (u38 : Value) (u39 : Value) (u40 : Value) (u41 : Value) (u42 : Value) (u43 : Value) (u44 : Value) (u45 : Value) (u46 : Value) (x0_hg0a : ∀ j, j < 16 → f0_2 j = 1) (x0_hg0b : ∀ j, 16 ≤ j → j < 32 → f0_2 j = 0) (x0_hg0c : f0_2 32 = 16) (x0_hg1a : ∀ j, j < 16 → f1_2 j = 1) (x0_hg1b : ∀ j, 16 ≤ j → j < 32 → f1_2 j = 0) (x0_hg1c : f1_2 32 = 16) (x0_hg2a : ∀ j, j < 16 → f2_2 j = 1) (x0_hg2b : ∀ j, 16 ≤ j → j < 32 → f2_2 j = 0) (x0_hg2c : f2_2 32 = 16) (x0_hg3a : ∀ j, j < 16 → f3_2 j = 1) (x0_hg3b : ∀ j, 16 ≤ j → j < 32 → f3_2 j = 0) (x0_hg3c : f3_2 32 = 16) (m0_hu : ∀ j, j < 128 → mu j = -1) {A : Nat → Prop} (hA : ∀ q, s.heap.size ≤ q → A q) (hA' : ∀ q, A q → s.heap.size ≤ q) (H : Heap) (locs : List Loc) (hS : va_S A s.heap H locs) (hP : zP g [(x0, .inr (8, [.ref aC, aW, aT, aB, aL, aG, aM, aA, aU, aE, aD, .int 0, .int 0])), (aC, .inl (g.2 4, 4, .inr (.inr (.inr (.inr (zS [some c0_, some c1_, some c2_, some c3_])))))), (c0_, .inr (3, [.int we0, .ref c0_1, .ref c0_2, .ref c0_3, .ref c0_4, .int se0])), (c0_1, .inl (g.2 0, 32, .inl f0_1)), (c0_2, .inl (g.2 0, 33, .inl f0_2)), (c0_3, .inl (g.2 0, 33, .inl f0_3)), (c0_4, .inl (g.2 0, 16, .inl f0_4)), (c1_, .inr (3, [.int we1, .ref c1_1, .ref c1_2, .ref c1_3, .ref c1_4, .int se1])), (c1_1, .inl (g.2 0, 32, .inl f1_1)), (c1_2, .inl (g.2 0, 33, .inl f1_2)), (c1_3, .inl (g.2 0, 33, .inl f1_3)), (c1_4, .inl (g.2 0, 16, .inl f1_4)), (c2_, .inr (3, [.int we2, .ref c2_1, .ref c2_2, .ref c2_3, .ref c2_4, .int se2])), (c2_1, .inl (g.2 0, 32, .inl f2_1)), (c2_2, .inl (g.2 0, 33, .inl f2_2)), (c2_3, .inl (g.2 0, 33, .inl f2_3)), (c2_4, .inl (g.2 0, 16, .inl f2_4)), (c3_, .inr (3, [.int we3, .ref c3_1, .ref c3_2, .ref c3_3, .ref c3_4, .int se3])), (c3_1, .inl (g.2 0, 32, .inl f3_1)), (c3_2, .inl (g.2 0, 33, .inl f3_2)), (c3_3, .inl (g.2 0, 33, .inl f3_3)), (c3_4, .inl (g.2 0, 16, .inl f3_4)), (m0, .inr (9, [.int 0, .ref bmu, u2, u3, u4, .int 0, .int 0, .int 0, .int 0, u9, u10, u11, u12, u13, u14, u15, .int 0, u17, u18, u19, u20, u21, u22, u23, u24, u25, u26, u27, u28, u29, u30, u31, u32, u33, u34, u35, u36, u37, u38, u39, u40, u41, u42, u43, u44, u45, u46])), (bmu, .inl (g.2 0, 128, .inl mu))] H) (hD : va_D A [(x0, .inr (8, [.ref aC, aW, aT, aB, aL, aG, aM, aA, aU, aE, aD, .int 0, .int 0])), (aC, .inl (g.2 4, 4, .inr (.inr (.inr (.inr (zS [some c0_, some c1_, some c2_, some c3_])))))), (c0_, .inr (3, [.int we0, .ref c0_1, .ref c0_2, .ref c0_3, .ref c0_4, .int se0])), (c0_1, .inl (g.2 0, 32, .inl f0_1)), (c0_2, .inl (g.2 0, 33, .inl f0_2)), (c0_3, .inl (g.2 0, 33, .inl f0_3)), (c0_4, .inl (g.2 0, 16, .inl f0_4)), (c1_, .inr (3, [.int we1, .ref c1_1, .ref c1_2, .ref c1_3, .ref c1_4, .int se1])), (c1_1, .inl (g.2 0, 32, .inl f1_1)), (c1_2, .inl (g.2 0, 33, .inl f1_2)), (c1_3, .inl (g.2 0, 33, .inl f1_3)), (c1_4, .inl (g.2 0, 16, .inl f1_4)), (c2_, .inr (3, [.int we2, .ref c2_1, .ref c2_2, .ref c2_3, .ref c2_4, .int se2])), (c2_1, .inl (g.2 0, 32, .inl f2_1)), (c2_2, .inl (g.2 0, 33, .inl f2_2)), (c2_3, .inl (g.2 0, 33, .inl f2_3)), (c2_4, .inl (g.2 0, 16, .inl f2_4)), (c3_, .inr (3, [.int we3, .ref c3_1, .ref c3_2, .ref c3_3, .ref c3_4, .int se3])), (c3_1, .inl (g.2 0, 32, .inl f3_1)), (c3_2, .inl (g.2 0, 33, .inl f3_2)), (c3_3, .inl (g.2 0, 33, .inl f3_3)), (c3_4, .inl (g.2 0, 16, .inl f3_4)), (m0, .inr (9, [.int 0, .ref bmu, u2, u3, u4, .int 0, .int 0, .int 0, .int 0, u9, u10, u11, u12, u13, u14, u15, .int 0, u17, u18, u19, u20, u21, u22, u23, u24, u25, u26, u27, u28, u29, u30, u31, u32, u33, u34, u35, u36, u37, u38, u39, u40, u41, u42, u43, u44, u45, u46])), (bmu, .inl (g.2 0, 128, .inl mu))]) (ls : Array Slot) (hl : lv_has ls 4 [(0, .ref b), (1, .ref x0), (2, .ref m0), (3, .int 0)]) : W p l e room_1 s m #[Value.ref b] below meth c H locs 210 203560 (lw_Z below #[Value.ref b] s) (F0 m 440 ls []) := by
  obtain ⟨hx, hb, hr, hml, hown, hts, hX, hbl, hlocks, hgv⟩ := C0
  have hg : ∀ w ∈ zGW, w.before #[Value.ref b] s = true := fun w h => hts w (List.mem_filter.mp h).1
  have hown : s.vm.findClass RL = some m.cls := hown
  have hbA : ¬ A b := fun h => absurd (hA' b h) (Nat.not_le.mpr hbl)
  refine lv_aload_n hx hb dL_law_440 rfl (lv_at hl 1 rfl) ?_
  refine lv_aload_n hx hb dL_law_441 rfl (lv_at hl 0 rfl) ?_
  refine lv_iload_n hx hb dL_law_442 rfl (lv_at hl 3 rfl) ?_
  refine lv_iconst (v := 1) hx hb dL_law_443 (by decide) ?_
  refine lv_iadd hx hb dL_law_444 ?_
  refine lv_topi (fun x1 ex1 => ?_)
  obtain rfl : x1 = 1 := ex1.trans (by decide)
  refine va_sld hx hb hX hbl hbA hS (z_in (by decide : (1 : Int32).toInt = 1) (by omega) (by omega)) dL_law_445 ?_
  refine W.eq (g2 := F0 m 446 ls [.int (xs 1), .ref x0]) rfl ?_
  refine lv_aload_n hx hb dL_law_446 rfl (lv_at hl 0 rfl) ?_
  refine lv_iload_n hx hb dL_law_447 rfl (lv_at hl 3 rfl) ?_
  refine lv_iconst (v := 2) hx hb dL_law_448 (by decide) ?_
  refine lv_iadd hx hb dL_law_449 ?_
  refine lv_topi (fun x2 ex2 => ?_)
  obtain rfl : x2 = 2 := ex2.trans (by decide)
  refine va_sld hx hb hX hbl hbA hS (z_in (by decide : (2 : Int32).toInt = 2) (by omega) (by omega)) dL_law_450 ?_
  refine W.eq (g2 := F0 m 451 ls [.int (xs 2), .int (xs 1), .ref x0]) rfl ?_
  have hPc := hP.sub (ws' := [(x0, .inr (8, [.ref aC, aW, aT, aB, aL, aG, aM, aA, aU, aE, aD, .int 0, .int 0])), (aC, .inl (g.2 4, 4, .inr (.inr (.inr (.inr (zS [some c0_, some c1_, some c2_, some c3_])))))), (c0_, .inr (3, [.int we0, .ref c0_1, .ref c0_2, .ref c0_3, .ref c0_4, .int se0])), (c0_1, .inl (g.2 0, 32, .inl f0_1)), (c0_2, .inl (g.2 0, 33, .inl f0_2)), (c0_3, .inl (g.2 0, 33, .inl f0_3)), (c0_4, .inl (g.2 0, 16, .inl f0_4)), (c1_, .inr (3, [.int we1, .ref c1_1, .ref c1_2, .ref c1_3, .ref c1_4, .int se1])), (c1_1, .inl (g.2 0, 32, .inl f1_1)), (c1_2, .inl (g.2 0, 33, .inl f1_2)), (c1_3, .inl (g.2 0, 33, .inl f1_3)), (c1_4, .inl (g.2 0, 16, .inl f1_4)), (c2_, .inr (3, [.int we2, .ref c2_1, .ref c2_2, .ref c2_3, .ref c2_4, .int se2])), (c2_1, .inl (g.2 0, 32, .inl f2_1)), (c2_2, .inl (g.2 0, 33, .inl f2_2)), (c2_3, .inl (g.2 0, 33, .inl f2_3)), (c2_4, .inl (g.2 0, 16, .inl f2_4)), (c3_, .inr (3, [.int we3, .ref c3_1, .ref c3_2, .ref c3_3, .ref c3_4, .int se3])), (c3_1, .inl (g.2 0, 32, .inl f3_1)), (c3_2, .inl (g.2 0, 33, .inl f3_2)), (c3_3, .inl (g.2 0, 33, .inl f3_3)), (c3_4, .inl (g.2 0, 16, .inl f3_4))]) [0, 1, 2, 3, 4, 5, 6, 7, 8, 9, 10, 11, 12, 13, 14, 15, 16, 17, 18, 19, 20, 21] rfl
  refine zc_i (va_runV (As := [.int (xs 1), .int (xs 2)]) (rest := []) ⟨hx, hb, hml, hown, hg⟩ (c_X8_size l g x0 aC (aW : Value) (aT : Value) (aB : Value) (aL : Value) (aG : Value) (aM : Value) (aA : Value) (aU : Value) (aE : Value) (aD : Value) c0_ c0_1 c0_2 c0_3 c0_4 f0_1 f0_2 f0_3 f0_4 we0 se0 c1_ c1_1 c1_2 c1_3 c1_4 f1_1 f1_2 f1_3 f1_4 we1 se1 c2_ c2_1 c2_2 c2_3 c2_4 f2_1 f2_2 f2_3 f2_4 we2 se2 c3_ c3_1 c3_2 c3_3 c3_4 f3_1 f3_2 f3_3 f3_4 we3 se3 (xs 1) (xs 2) (by first | omega | assumption | decide | (rw [nI_toInt] <;> omega)) (by first | omega | assumption | decide | (rw [nI_toInt] <;> omega)) (by first | omega | assumption | decide | (rw [nI_toInt] <;> omega)) (by first | omega | assumption | decide | (rw [nI_toInt] <;> omega)) (by first | omega | assumption | decide | (rw [nI_toInt] <;> omega)) (by first | omega | assumption | decide | (rw [nI_toInt] <;> omega)) (by first | omega | assumption | decide | (rw [nI_toInt] <;> omega)) (by first | omega | assumption | decide | (rw [nI_toInt] <;> omega)) (by first | omega | assumption | decide | (rw [nI_toInt] <;> omega)) (by first | omega | assumption | decide | (rw [nI_toInt] <;> omega)) (by first | omega | assumption | decide | (rw [nI_toInt] <;> omega)) (by first | omega | assumption | decide | (rw [nI_toInt] <;> omega))) (cwV 2 hg (z_gV mm_536 mm_537 mm_538 mm_108 mm_539) rfl rfl rfl (by decide +kernel) ⟨Nat.le_of_ble_eq_true rfl, Nat.le_of_ble_eq_true rfl⟩) ⟨(zR.pre [.ref x0, .int (xs 1), .int (xs 2)] hPc hK hN).1, va_recv hK hPc (ci := 8) (q0 := 0) rfl rfl, (zR.pre [.ref x0, .int (xs 1), .int (xs 2)] hPc hK hN).2⟩ rfl rfl hl.1 rfl (lv_room (Nat.le_of_ble_eq_true rfl)) dL_law_451 ⟨Nat.le_of_ble_eq_true rfl, Nat.le_of_ble_eq_true rfl⟩) (fun r3 hr3 => ?_)
  rcases hr3 with hr3 | hr3 | hr3 | hr3
  · skip
    obtain ⟨rfl, h4⟩ := hr3
    have h4 : ¬ (0 ≤ (xs 1).toInt ∧ (xs 1).toInt ≤ 3 ∧ (0 ≤ (xs 2).toInt ∧ (xs 2).toInt ≤ 32)) := h4
    refine lv_aload_n hx hb dL_law_454 rfl (lv_at hl 2 rfl) ?_
    refine lv_aload_n hx hb dL_law_455 rfl (lv_at hl 0 rfl) ?_
    refine lv_iload_n hx hb dL_law_456 rfl (lv_at hl 3 rfl) ?_
    refine lv_iconst (v := 1) hx hb dL_law_457 (by decide) ?_
    refine lv_iadd hx hb dL_law_458 ?_
    refine lv_topi (fun x5 ex5 => ?_)
    obtain rfl : x5 = 1 := ex5.trans (by decide)
    refine va_sld hx hb hX hbl hbA hS (z_in (by decide : (1 : Int32).toInt = 1) (by omega) (by omega)) dL_law_459 ?_
    refine W.eq (g2 := F0 m 460 ls [.int (xs 1), .ref m0, .int (-1)]) rfl ?_
    refine lv_aload_n hx hb dL_law_460 rfl (lv_at hl 0 rfl) ?_
    refine lv_iload_n hx hb dL_law_461 rfl (lv_at hl 3 rfl) ?_
    refine lv_iconst (v := 2) hx hb dL_law_462 (by decide) ?_
    refine lv_iadd hx hb dL_law_463 ?_
    refine lv_topi (fun x6 ex6 => ?_)
    obtain rfl : x6 = 2 := ex6.trans (by decide)
    refine va_sld hx hb hX hbl hbA hS (z_in (by decide : (2 : Int32).toInt = 2) (by omega) (by omega)) dL_law_464 ?_
    refine W.eq (g2 := F0 m 465 ls [.int (xs 2), .int (xs 1), .ref m0, .int (-1)]) rfl ?_
    have hPc := hP.sub (ws' := [(m0, .inr (9, [.int 0, .ref bmu, u2, u3, u4, .int 0, .int 0, .int 0, .int 0, u9, u10, u11, u12, u13, u14, u15, .int 0, u17, u18, u19, u20, u21, u22, u23, u24, u25, u26, u27, u28, u29, u30, u31, u32, u33, u34, u35, u36, u37, u38, u39, u40, u41, u42, u43, u44, u45, u46])), (bmu, .inl (g.2 0, 128, .inl mu))]) [22, 23] rfl
    refine zc_i (va_runV (As := [.int (xs 1), .int (xs 2)]) (rest := [.int (-1)]) ⟨hx, hb, hml, hown, hg⟩ (c_X9_size l g m0 bmu mu (u2 : Value) (u3 : Value) (u4 : Value) (u9 : Value) (u10 : Value) (u11 : Value) (u12 : Value) (u13 : Value) (u14 : Value) (u15 : Value) (u17 : Value) (u18 : Value) (u19 : Value) (u20 : Value) (u21 : Value) (u22 : Value) (u23 : Value) (u24 : Value) (u25 : Value) (u26 : Value) (u27 : Value) (u28 : Value) (u29 : Value) (u30 : Value) (u31 : Value) (u32 : Value) (u33 : Value) (u34 : Value) (u35 : Value) (u36 : Value) (u37 : Value) (u38 : Value) (u39 : Value) (u40 : Value) (u41 : Value) (u42 : Value) (u43 : Value) (u44 : Value) (u45 : Value) (u46 : Value) (xs 1) (xs 2) (by first | omega | assumption | decide | (rw [nI_toInt] <;> omega))) (cwV 2 hg (z_gV mm_1136 mm_1137 mm_1138 mm_117 mm_1139) rfl rfl rfl (by decide +kernel) ⟨Nat.le_of_ble_eq_true rfl, Nat.le_of_ble_eq_true rfl⟩) ⟨(zR.pre [.ref m0, .int (xs 1), .int (xs 2)] hPc hK hN).1, va_recv hK hPc (ci := 9) (q0 := 0) rfl rfl, (zR.pre [.ref m0, .int (xs 1), .int (xs 2)] hPc hK hN).2⟩ rfl rfl hl.1 rfl (lv_room (Nat.le_of_ble_eq_true rfl)) dL_law_465 ⟨Nat.le_of_ble_eq_true rfl, Nat.le_of_ble_eq_true rfl⟩) (fun r7 hr7 => ?_)
    rcases hr7 with hr7 | hr7 | hr7 | hr7
    · skip
      obtain ⟨rfl, h8⟩ := hr7
      have h8 : ¬ (0 ≤ (xs 1).toInt ∧ (xs 1).toInt ≤ 3 ∧ (0 ≤ (xs 2).toInt ∧ (xs 2).toInt ≤ 32)) := h8
      refine lv_icmp_eq (tgt := 1533) hx hb dL_law_468 (by decide) (fun c9 => ?_) (fun c9 => ?_)
      · skip
        refine lv_iinc (v := 6) (lv' := [(3, .int 6), (0, .ref b), (1, .ref x0), (2, .ref m0)]) hx hb dL_law_1533 hl (k := 3) rfl (by decide) (by decide) rfl (fun ls hl => ?_)
        refine lv_goto (tgt := 18) hx hb dL_law_1536 (by decide) ?_
        refine lv_iload_n hx hb dL_law_18 rfl (lv_at hl 0 rfl) ?_
        refine lv_aload_n hx hb dL_law_19 rfl (lv_at hl 1 rfl) ?_
        refine va_slen hx hb hX hbl hbA hS dL_law_20 ?_
        refine W.eq (g2 := F0 m 21 ls [.int 6, .int 6]) rfl ?_
        refine lv_bipush (v := 6) hx hb dL_law_21 (by decide) ?_
        refine lv_isub hx hb dL_law_23 ?_
        refine lv_topi (fun x10 ex10 => ?_)
        obtain rfl : x10 = 0 := ex10.trans (by decide)
        refine lv_icmp_gt (tgt := 1539) hx hb dL_law_24 (by decide) (fun c11 => ?_) (fun c11 => ?_)
        · skip
          refine lv_iconst (v := 1) hx hb dL_law_1539 (by decide) ?_
          refine va_forget (fun q hq => hA' _ (hS.2.2 q hq)) ?_
          refine W.widen (k := 600000) (n := 7302250) (Nat.le_of_ble_eq_true rfl) (Nat.le_of_ble_eq_true rfl) ?_
          exact lw_ret hx hb hr hlocks dL_law_1540
        · skip
          exact absurd c11 (by decide)
      · skip
        exact absurd c9 (by decide)
    · skip
      obtain ⟨rfl, h12, h13⟩ := hr7
      have h12 : 0 ≤ (xs 1).toInt ∧ (xs 1).toInt ≤ 3 ∧ (0 ≤ (xs 2).toInt ∧ (xs 2).toInt ≤ 32) := h12
      have h13 : (xs 2).toInt < 16 := h13
      exfalso
      omega
    · skip
      obtain ⟨rfl, h14, h15⟩ := hr7
      have h14 : 0 ≤ (xs 1).toInt ∧ (xs 1).toInt ≤ 3 ∧ (0 ≤ (xs 2).toInt ∧ (xs 2).toInt ≤ 32) := h14
      have h15 : 16 ≤ (xs 2).toInt ∧ (xs 2).toInt < 32 := h15
      exfalso
      omega
    · skip
      obtain ⟨rfl, h16, h17⟩ := hr7
      have h16 : 0 ≤ (xs 1).toInt ∧ (xs 1).toInt ≤ 3 ∧ (0 ≤ (xs 2).toInt ∧ (xs 2).toInt ≤ 32) := h16
      have h17 : (xs 2).toInt = 32 := h17
      exfalso
      omega
  · skip
    obtain ⟨rfl, h18, h19⟩ := hr3
    have h18 : 0 ≤ (xs 1).toInt ∧ (xs 1).toInt ≤ 3 ∧ (0 ≤ (xs 2).toInt ∧ (xs 2).toInt ≤ 32) := h18
    have h19 : (xs 2).toInt < 16 := h19
    refine lv_aload_n hx hb dL_law_454 rfl (lv_at hl 2 rfl) ?_
    refine lv_aload_n hx hb dL_law_455 rfl (lv_at hl 0 rfl) ?_
    refine lv_iload_n hx hb dL_law_456 rfl (lv_at hl 3 rfl) ?_
    refine lv_iconst (v := 1) hx hb dL_law_457 (by decide) ?_
    refine lv_iadd hx hb dL_law_458 ?_
    refine lv_topi (fun x20 ex20 => ?_)
    obtain rfl : x20 = 1 := ex20.trans (by decide)
    refine va_sld hx hb hX hbl hbA hS (z_in (by decide : (1 : Int32).toInt = 1) (by omega) (by omega)) dL_law_459 ?_
    refine W.eq (g2 := F0 m 460 ls [.int (xs 1), .ref m0, .int 1]) rfl ?_
    refine lv_aload_n hx hb dL_law_460 rfl (lv_at hl 0 rfl) ?_
    refine lv_iload_n hx hb dL_law_461 rfl (lv_at hl 3 rfl) ?_
    refine lv_iconst (v := 2) hx hb dL_law_462 (by decide) ?_
    refine lv_iadd hx hb dL_law_463 ?_
    refine lv_topi (fun x21 ex21 => ?_)
    obtain rfl : x21 = 2 := ex21.trans (by decide)
    refine va_sld hx hb hX hbl hbA hS (z_in (by decide : (2 : Int32).toInt = 2) (by omega) (by omega)) dL_law_464 ?_
    refine W.eq (g2 := F0 m 465 ls [.int (xs 2), .int (xs 1), .ref m0, .int 1]) rfl ?_
    have hPc := hP.sub (ws' := [(m0, .inr (9, [.int 0, .ref bmu, u2, u3, u4, .int 0, .int 0, .int 0, .int 0, u9, u10, u11, u12, u13, u14, u15, .int 0, u17, u18, u19, u20, u21, u22, u23, u24, u25, u26, u27, u28, u29, u30, u31, u32, u33, u34, u35, u36, u37, u38, u39, u40, u41, u42, u43, u44, u45, u46])), (bmu, .inl (g.2 0, 128, .inl mu))]) [22, 23] rfl
    refine zc_i (va_runV (As := [.int (xs 1), .int (xs 2)]) (rest := [.int 1]) ⟨hx, hb, hml, hown, hg⟩ (c_X9_size l g m0 bmu mu (u2 : Value) (u3 : Value) (u4 : Value) (u9 : Value) (u10 : Value) (u11 : Value) (u12 : Value) (u13 : Value) (u14 : Value) (u15 : Value) (u17 : Value) (u18 : Value) (u19 : Value) (u20 : Value) (u21 : Value) (u22 : Value) (u23 : Value) (u24 : Value) (u25 : Value) (u26 : Value) (u27 : Value) (u28 : Value) (u29 : Value) (u30 : Value) (u31 : Value) (u32 : Value) (u33 : Value) (u34 : Value) (u35 : Value) (u36 : Value) (u37 : Value) (u38 : Value) (u39 : Value) (u40 : Value) (u41 : Value) (u42 : Value) (u43 : Value) (u44 : Value) (u45 : Value) (u46 : Value) (xs 1) (xs 2) (by first | omega | assumption | decide | (rw [nI_toInt] <;> omega))) (cwV 2 hg (z_gV mm_1136 mm_1137 mm_1138 mm_117 mm_1139) rfl rfl rfl (by decide +kernel) ⟨Nat.le_of_ble_eq_true rfl, Nat.le_of_ble_eq_true rfl⟩) ⟨(zR.pre [.ref m0, .int (xs 1), .int (xs 2)] hPc hK hN).1, va_recv hK hPc (ci := 9) (q0 := 0) rfl rfl, (zR.pre [.ref m0, .int (xs 1), .int (xs 2)] hPc hK hN).2⟩ rfl rfl hl.1 rfl (lv_room (Nat.le_of_ble_eq_true rfl)) dL_law_465 ⟨Nat.le_of_ble_eq_true rfl, Nat.le_of_ble_eq_true rfl⟩) (fun r22 hr22 => ?_)
    rcases hr22 with hr22 | hr22 | hr22 | hr22
    · skip
      obtain ⟨rfl, h23⟩ := hr22
      have h23 : ¬ (0 ≤ (xs 1).toInt ∧ (xs 1).toInt ≤ 3 ∧ (0 ≤ (xs 2).toInt ∧ (xs 2).toInt ≤ 32)) := h23
      exfalso
      omega
    · skip
      obtain ⟨rfl, h24, h25⟩ := hr22
      have h24 : 0 ≤ (xs 1).toInt ∧ (xs 1).toInt ≤ 3 ∧ (0 ≤ (xs 2).toInt ∧ (xs 2).toInt ≤ 32) := h24
      have h25 : (xs 2).toInt < 16 := h25
      refine lv_icmp_eq (tgt := 1533) hx hb dL_law_468 (by decide) (fun c26 => ?_) (fun c26 => ?_)
      · skip
        refine lv_iinc (v := 6) (lv' := [(3, .int 6), (0, .ref b), (1, .ref x0), (2, .ref m0)]) hx hb dL_law_1533 hl (k := 3) rfl (by decide) (by decide) rfl (fun ls hl => ?_)
        refine lv_goto (tgt := 18) hx hb dL_law_1536 (by decide) ?_
        refine lv_iload_n hx hb dL_law_18 rfl (lv_at hl 0 rfl) ?_
        refine lv_aload_n hx hb dL_law_19 rfl (lv_at hl 1 rfl) ?_
        refine va_slen hx hb hX hbl hbA hS dL_law_20 ?_
        refine W.eq (g2 := F0 m 21 ls [.int 6, .int 6]) rfl ?_
        refine lv_bipush (v := 6) hx hb dL_law_21 (by decide) ?_
        refine lv_isub hx hb dL_law_23 ?_
        refine lv_topi (fun x27 ex27 => ?_)
        obtain rfl : x27 = 0 := ex27.trans (by decide)
        refine lv_icmp_gt (tgt := 1539) hx hb dL_law_24 (by decide) (fun c28 => ?_) (fun c28 => ?_)
        · skip
          refine lv_iconst (v := 1) hx hb dL_law_1539 (by decide) ?_
          refine va_forget (fun q hq => hA' _ (hS.2.2 q hq)) ?_
          refine W.widen (k := 600000) (n := 7302250) (Nat.le_of_ble_eq_true rfl) (Nat.le_of_ble_eq_true rfl) ?_
          exact lw_ret hx hb hr hlocks dL_law_1540
        · skip
          exact absurd c28 (by decide)
      · skip
        exact absurd c26 (by decide)
    · skip
      obtain ⟨rfl, h29, h30⟩ := hr22
      have h29 : 0 ≤ (xs 1).toInt ∧ (xs 1).toInt ≤ 3 ∧ (0 ≤ (xs 2).toInt ∧ (xs 2).toInt ≤ 32) := h29
      have h30 : 16 ≤ (xs 2).toInt ∧ (xs 2).toInt < 32 := h30
      exfalso
      omega
    · skip
      obtain ⟨rfl, h31, h32⟩ := hr22
      have h31 : 0 ≤ (xs 1).toInt ∧ (xs 1).toInt ≤ 3 ∧ (0 ≤ (xs 2).toInt ∧ (xs 2).toInt ≤ 32) := h31
      have h32 : (xs 2).toInt = 32 := h32
      exfalso
      omega
  · skip
    obtain ⟨rfl, h33, h34⟩ := hr3
    have h33 : 0 ≤ (xs 1).toInt ∧ (xs 1).toInt ≤ 3 ∧ (0 ≤ (xs 2).toInt ∧ (xs 2).toInt ≤ 32) := h33
    have h34 : 16 ≤ (xs 2).toInt ∧ (xs 2).toInt < 32 := h34
    refine lv_aload_n hx hb dL_law_454 rfl (lv_at hl 2 rfl) ?_
    refine lv_aload_n hx hb dL_law_455 rfl (lv_at hl 0 rfl) ?_
    refine lv_iload_n hx hb dL_law_456 rfl (lv_at hl 3 rfl) ?_
    refine lv_iconst (v := 1) hx hb dL_law_457 (by decide) ?_
    refine lv_iadd hx hb dL_law_458 ?_
    refine lv_topi (fun x35 ex35 => ?_)
    obtain rfl : x35 = 1 := ex35.trans (by decide)
    refine va_sld hx hb hX hbl hbA hS (z_in (by decide : (1 : Int32).toInt = 1) (by omega) (by omega)) dL_law_459 ?_
    refine W.eq (g2 := F0 m 460 ls [.int (xs 1), .ref m0, .int 0]) rfl ?_
    refine lv_aload_n hx hb dL_law_460 rfl (lv_at hl 0 rfl) ?_
    refine lv_iload_n hx hb dL_law_461 rfl (lv_at hl 3 rfl) ?_
    refine lv_iconst (v := 2) hx hb dL_law_462 (by decide) ?_
    refine lv_iadd hx hb dL_law_463 ?_
    refine lv_topi (fun x36 ex36 => ?_)
    obtain rfl : x36 = 2 := ex36.trans (by decide)
    refine va_sld hx hb hX hbl hbA hS (z_in (by decide : (2 : Int32).toInt = 2) (by omega) (by omega)) dL_law_464 ?_
    refine W.eq (g2 := F0 m 465 ls [.int (xs 2), .int (xs 1), .ref m0, .int 0]) rfl ?_
    have hPc := hP.sub (ws' := [(m0, .inr (9, [.int 0, .ref bmu, u2, u3, u4, .int 0, .int 0, .int 0, .int 0, u9, u10, u11, u12, u13, u14, u15, .int 0, u17, u18, u19, u20, u21, u22, u23, u24, u25, u26, u27, u28, u29, u30, u31, u32, u33, u34, u35, u36, u37, u38, u39, u40, u41, u42, u43, u44, u45, u46])), (bmu, .inl (g.2 0, 128, .inl mu))]) [22, 23] rfl
    refine zc_i (va_runV (As := [.int (xs 1), .int (xs 2)]) (rest := [.int 0]) ⟨hx, hb, hml, hown, hg⟩ (c_X9_size l g m0 bmu mu (u2 : Value) (u3 : Value) (u4 : Value) (u9 : Value) (u10 : Value) (u11 : Value) (u12 : Value) (u13 : Value) (u14 : Value) (u15 : Value) (u17 : Value) (u18 : Value) (u19 : Value) (u20 : Value) (u21 : Value) (u22 : Value) (u23 : Value) (u24 : Value) (u25 : Value) (u26 : Value) (u27 : Value) (u28 : Value) (u29 : Value) (u30 : Value) (u31 : Value) (u32 : Value) (u33 : Value) (u34 : Value) (u35 : Value) (u36 : Value) (u37 : Value) (u38 : Value) (u39 : Value) (u40 : Value) (u41 : Value) (u42 : Value) (u43 : Value) (u44 : Value) (u45 : Value) (u46 : Value) (xs 1) (xs 2) (by first | omega | assumption | decide | (rw [nI_toInt] <;> omega))) (cwV 2 hg (z_gV mm_1136 mm_1137 mm_1138 mm_117 mm_1139) rfl rfl rfl (by decide +kernel) ⟨Nat.le_of_ble_eq_true rfl, Nat.le_of_ble_eq_true rfl⟩) ⟨(zR.pre [.ref m0, .int (xs 1), .int (xs 2)] hPc hK hN).1, va_recv hK hPc (ci := 9) (q0 := 0) rfl rfl, (zR.pre [.ref m0, .int (xs 1), .int (xs 2)] hPc hK hN).2⟩ rfl rfl hl.1 rfl (lv_room (Nat.le_of_ble_eq_true rfl)) dL_law_465 ⟨Nat.le_of_ble_eq_true rfl, Nat.le_of_ble_eq_true rfl⟩) (fun r37 hr37 => ?_)
    rcases hr37 with hr37 | hr37 | hr37 | hr37
    · skip
      obtain ⟨rfl, h38⟩ := hr37
      have h38 : ¬ (0 ≤ (xs 1).toInt ∧ (xs 1).toInt ≤ 3 ∧ (0 ≤ (xs 2).toInt ∧ (xs 2).toInt ≤ 32)) := h38
      exfalso
      omega
    · skip
      obtain ⟨rfl, h39, h40⟩ := hr37
      have h39 : 0 ≤ (xs 1).toInt ∧ (xs 1).toInt ≤ 3 ∧ (0 ≤ (xs 2).toInt ∧ (xs 2).toInt ≤ 32) := h39
      have h40 : (xs 2).toInt < 16 := h40
      exfalso
      omega
    · skip
      obtain ⟨rfl, h41, h42⟩ := hr37
      have h41 : 0 ≤ (xs 1).toInt ∧ (xs 1).toInt ≤ 3 ∧ (0 ≤ (xs 2).toInt ∧ (xs 2).toInt ≤ 32) := h41
      have h42 : 16 ≤ (xs 2).toInt ∧ (xs 2).toInt < 32 := h42
      refine lv_icmp_eq (tgt := 1533) hx hb dL_law_468 (by decide) (fun c43 => ?_) (fun c43 => ?_)
      · skip
        refine lv_iinc (v := 6) (lv' := [(3, .int 6), (0, .ref b), (1, .ref x0), (2, .ref m0)]) hx hb dL_law_1533 hl (k := 3) rfl (by decide) (by decide) rfl (fun ls hl => ?_)
        refine lv_goto (tgt := 18) hx hb dL_law_1536 (by decide) ?_
        refine lv_iload_n hx hb dL_law_18 rfl (lv_at hl 0 rfl) ?_
        refine lv_aload_n hx hb dL_law_19 rfl (lv_at hl 1 rfl) ?_
        refine va_slen hx hb hX hbl hbA hS dL_law_20 ?_
        refine W.eq (g2 := F0 m 21 ls [.int 6, .int 6]) rfl ?_
        refine lv_bipush (v := 6) hx hb dL_law_21 (by decide) ?_
        refine lv_isub hx hb dL_law_23 ?_
        refine lv_topi (fun x44 ex44 => ?_)
        obtain rfl : x44 = 0 := ex44.trans (by decide)
        refine lv_icmp_gt (tgt := 1539) hx hb dL_law_24 (by decide) (fun c45 => ?_) (fun c45 => ?_)
        · skip
          refine lv_iconst (v := 1) hx hb dL_law_1539 (by decide) ?_
          refine va_forget (fun q hq => hA' _ (hS.2.2 q hq)) ?_
          refine W.widen (k := 600000) (n := 7302250) (Nat.le_of_ble_eq_true rfl) (Nat.le_of_ble_eq_true rfl) ?_
          exact lw_ret hx hb hr hlocks dL_law_1540
        · skip
          exact absurd c45 (by decide)
      · skip
        exact absurd c43 (by decide)
    · skip
      obtain ⟨rfl, h46, h47⟩ := hr37
      have h46 : 0 ≤ (xs 1).toInt ∧ (xs 1).toInt ≤ 3 ∧ (0 ≤ (xs 2).toInt ∧ (xs 2).toInt ≤ 32) := h46
      have h47 : (xs 2).toInt = 32 := h47
      exfalso
      omega
  · skip
    obtain ⟨rfl, h48, h49⟩ := hr3
    have h48 : 0 ≤ (xs 1).toInt ∧ (xs 1).toInt ≤ 3 ∧ (0 ≤ (xs 2).toInt ∧ (xs 2).toInt ≤ 32) := h48
    have h49 : (xs 2).toInt = 32 := h49
    refine lv_aload_n hx hb dL_law_454 rfl (lv_at hl 2 rfl) ?_
    refine lv_aload_n hx hb dL_law_455 rfl (lv_at hl 0 rfl) ?_
    refine lv_iload_n hx hb dL_law_456 rfl (lv_at hl 3 rfl) ?_
    refine lv_iconst (v := 1) hx hb dL_law_457 (by decide) ?_
    refine lv_iadd hx hb dL_law_458 ?_
    refine lv_topi (fun x50 ex50 => ?_)
    obtain rfl : x50 = 1 := ex50.trans (by decide)
    refine va_sld hx hb hX hbl hbA hS (z_in (by decide : (1 : Int32).toInt = 1) (by omega) (by omega)) dL_law_459 ?_
    refine W.eq (g2 := F0 m 460 ls [.int (xs 1), .ref m0, .int 16]) rfl ?_
    refine lv_aload_n hx hb dL_law_460 rfl (lv_at hl 0 rfl) ?_
    refine lv_iload_n hx hb dL_law_461 rfl (lv_at hl 3 rfl) ?_
    refine lv_iconst (v := 2) hx hb dL_law_462 (by decide) ?_
    refine lv_iadd hx hb dL_law_463 ?_
    refine lv_topi (fun x51 ex51 => ?_)
    obtain rfl : x51 = 2 := ex51.trans (by decide)
    refine va_sld hx hb hX hbl hbA hS (z_in (by decide : (2 : Int32).toInt = 2) (by omega) (by omega)) dL_law_464 ?_
    refine W.eq (g2 := F0 m 465 ls [.int (xs 2), .int (xs 1), .ref m0, .int 16]) rfl ?_
    have hPc := hP.sub (ws' := [(m0, .inr (9, [.int 0, .ref bmu, u2, u3, u4, .int 0, .int 0, .int 0, .int 0, u9, u10, u11, u12, u13, u14, u15, .int 0, u17, u18, u19, u20, u21, u22, u23, u24, u25, u26, u27, u28, u29, u30, u31, u32, u33, u34, u35, u36, u37, u38, u39, u40, u41, u42, u43, u44, u45, u46])), (bmu, .inl (g.2 0, 128, .inl mu))]) [22, 23] rfl
    refine zc_i (va_runV (As := [.int (xs 1), .int (xs 2)]) (rest := [.int 16]) ⟨hx, hb, hml, hown, hg⟩ (c_X9_size l g m0 bmu mu (u2 : Value) (u3 : Value) (u4 : Value) (u9 : Value) (u10 : Value) (u11 : Value) (u12 : Value) (u13 : Value) (u14 : Value) (u15 : Value) (u17 : Value) (u18 : Value) (u19 : Value) (u20 : Value) (u21 : Value) (u22 : Value) (u23 : Value) (u24 : Value) (u25 : Value) (u26 : Value) (u27 : Value) (u28 : Value) (u29 : Value) (u30 : Value) (u31 : Value) (u32 : Value) (u33 : Value) (u34 : Value) (u35 : Value) (u36 : Value) (u37 : Value) (u38 : Value) (u39 : Value) (u40 : Value) (u41 : Value) (u42 : Value) (u43 : Value) (u44 : Value) (u45 : Value) (u46 : Value) (xs 1) (xs 2) (by first | omega | assumption | decide | (rw [nI_toInt] <;> omega))) (cwV 2 hg (z_gV mm_1136 mm_1137 mm_1138 mm_117 mm_1139) rfl rfl rfl (by decide +kernel) ⟨Nat.le_of_ble_eq_true rfl, Nat.le_of_ble_eq_true rfl⟩) ⟨(zR.pre [.ref m0, .int (xs 1), .int (xs 2)] hPc hK hN).1, va_recv hK hPc (ci := 9) (q0 := 0) rfl rfl, (zR.pre [.ref m0, .int (xs 1), .int (xs 2)] hPc hK hN).2⟩ rfl rfl hl.1 rfl (lv_room (Nat.le_of_ble_eq_true rfl)) dL_law_465 ⟨Nat.le_of_ble_eq_true rfl, Nat.le_of_ble_eq_true rfl⟩) (fun r52 hr52 => ?_)
    rcases hr52 with hr52 | hr52 | hr52 | hr52
    · skip
      obtain ⟨rfl, h53⟩ := hr52
      have h53 : ¬ (0 ≤ (xs 1).toInt ∧ (xs 1).toInt ≤ 3 ∧ (0 ≤ (xs 2).toInt ∧ (xs 2).toInt ≤ 32)) := h53
      exfalso
      omega
    · skip
      obtain ⟨rfl, h54, h55⟩ := hr52
      have h54 : 0 ≤ (xs 1).toInt ∧ (xs 1).toInt ≤ 3 ∧ (0 ≤ (xs 2).toInt ∧ (xs 2).toInt ≤ 32) := h54
      have h55 : (xs 2).toInt < 16 := h55
      exfalso
      omega
    · skip
      obtain ⟨rfl, h56, h57⟩ := hr52
      have h56 : 0 ≤ (xs 1).toInt ∧ (xs 1).toInt ≤ 3 ∧ (0 ≤ (xs 2).toInt ∧ (xs 2).toInt ≤ 32) := h56
      have h57 : 16 ≤ (xs 2).toInt ∧ (xs 2).toInt < 32 := h57
      exfalso
      omega
    · skip
      obtain ⟨rfl, h58, h59⟩ := hr52
      have h58 : 0 ≤ (xs 1).toInt ∧ (xs 1).toInt ≤ 3 ∧ (0 ≤ (xs 2).toInt ∧ (xs 2).toInt ≤ 32) := h58
      have h59 : (xs 2).toInt = 32 := h59
      refine lv_icmp_eq (tgt := 1533) hx hb dL_law_468 (by decide) (fun c60 => ?_) (fun c60 => ?_)
      · skip
        refine lv_iinc (v := 6) (lv' := [(3, .int 6), (0, .ref b), (1, .ref x0), (2, .ref m0)]) hx hb dL_law_1533 hl (k := 3) rfl (by decide) (by decide) rfl (fun ls hl => ?_)
        refine lv_goto (tgt := 18) hx hb dL_law_1536 (by decide) ?_
        refine lv_iload_n hx hb dL_law_18 rfl (lv_at hl 0 rfl) ?_
        refine lv_aload_n hx hb dL_law_19 rfl (lv_at hl 1 rfl) ?_
        refine va_slen hx hb hX hbl hbA hS dL_law_20 ?_
        refine W.eq (g2 := F0 m 21 ls [.int 6, .int 6]) rfl ?_
        refine lv_bipush (v := 6) hx hb dL_law_21 (by decide) ?_
        refine lv_isub hx hb dL_law_23 ?_
        refine lv_topi (fun x61 ex61 => ?_)
        obtain rfl : x61 = 0 := ex61.trans (by decide)
        refine lv_icmp_gt (tgt := 1539) hx hb dL_law_24 (by decide) (fun c62 => ?_) (fun c62 => ?_)
        · skip
          refine lv_iconst (v := 1) hx hb dL_law_1539 (by decide) ?_
          refine va_forget (fun q hq => hA' _ (hS.2.2 q hq)) ?_
          refine W.widen (k := 600000) (n := 7302250) (Nat.le_of_ble_eq_true rfl) (Nat.le_of_ble_eq_true rfl) ?_
          exact lw_ret hx hb hr hlocks dL_law_1540
        · skip
          exact absurd c62 (by decide)
      · skip
        exact absurd c60 (by decide)

set_option maxHeartbeats 4000000 in
set_option maxRecDepth 100000 in
theorem op_book {p : Program} {e : Env} {s : State} {m : MethodId} {below : List Frame} {meth : Method} {c : Code} (l : Launch) {b : Nat} {xs : Nat → Int32} (C0 : lw_At p s m meth c b 6 xs) (g : zG) (hK : zK g s) (hN : zN s) (x0 : Nat) (aC : Value) (aW : Value) (aT : Nat) (aB : Value) (aL : Value) (aG : Value) (aM : Value) (aA : Value) (aU : Value) (aE : Value) (aD : Value) (aTb : Nat) (ft : Nat → Int32) (m0 : Nat) (u1 : Value) (u2 : Value) (u3 : Value) (u4 : Value) (u9 : Value) (u10 : Value) (u11 : Value) (u12 : Value) (u13 : Value) (u14 : Value) (u15 : Value) (u17 : Value) (u18 : Value) (u19 : Value) (u20 : Value) (u21 : Value) (u22 : Value) (u23 : Value) (u24 : Value) (u25 : Value) (u26 : Value) (u27 : Value) (u28 : Value) (u29 : Value) (u30 : Value) (u31 : Value) (u32 : Value) (u33 : Value) (u34 : Value) (u35 : Value) (u36 : Value) (u37 : Value) (u38 : Value) (u39 : Value) (u40 : Value) (u41 : Value) (u42 : Value) (u43 : Value) (u44 : Value) (u45 : Value) (u46 : Value) {A : Nat → Prop} (hA : ∀ q, s.heap.size ≤ q → A q) (hA' : ∀ q, A q → s.heap.size ≤ q) (H : Heap) (locs : List Loc) (hS : va_S A s.heap H locs) (hP : zP g [(x0, .inr (8, [aC, aW, .ref aT, aB, aL, aG, aM, aA, aU, aE, aD, .int 0, .int 0])), (aT, .inr (7, [.int 0, .ref aTb])), (aTb, .inl (g.2 0, 200, .inl ft)), (m0, .inr (9, [.int 0, u1, u2, u3, u4, .int 0, .int 0, .int 0, .int 0, u9, u10, u11, u12, u13, u14, u15, .int 0, u17, u18, u19, u20, u21, u22, u23, u24, u25, u26, u27, u28, u29, u30, u31, u32, u33, u34, u35, u36, u37, u38, u39, u40, u41, u42, u43, u44, u45, u46]))] H) (hD : va_D A [(x0, .inr (8, [aC, aW, .ref aT, aB, aL, aG, aM, aA, aU, aE, aD, .int 0, .int 0])), (aT, .inr (7, [.int 0, .ref aTb])), (aTb, .inl (g.2 0, 200, .inl ft)), (m0, .inr (9, [.int 0, u1, u2, u3, u4, .int 0, .int 0, .int 0, .int 0, u9, u10, u11, u12, u13, u14, u15, .int 0, u17, u18, u19, u20, u21, u22, u23, u24, u25, u26, u27, u28, u29, u30, u31, u32, u33, u34, u35, u36, u37, u38, u39, u40, u41, u42, u43, u44, u45, u46]))]) (ls : Array Slot) (hl : lv_has ls 4 [(0, .ref b), (1, .ref x0), (2, .ref m0), (3, .int 0)]) : W p l e room_1 s m #[Value.ref b] below meth c H locs 210 203560 (lw_Z below #[Value.ref b] s) (F0 m 473 ls []) := by
  obtain ⟨hx, hb, hr, hml, hown, hts, hX, hbl, hlocks, hgv⟩ := C0
  have hg : ∀ w ∈ zGW, w.before #[Value.ref b] s = true := fun w h => hts w (List.mem_filter.mp h).1
  have hown : s.vm.findClass RL = some m.cls := hown
  have hbA : ¬ A b := fun h => absurd (hA' b h) (Nat.not_le.mpr hbl)
  refine lv_aload_n hx hb dL_law_473 rfl (lv_at hl 1 rfl) ?_
  refine lv_aload_n hx hb dL_law_474 rfl (lv_at hl 0 rfl) ?_
  refine lv_iload_n hx hb dL_law_475 rfl (lv_at hl 3 rfl) ?_
  refine lv_iconst (v := 1) hx hb dL_law_476 (by decide) ?_
  refine lv_iadd hx hb dL_law_477 ?_
  refine lv_topi (fun x1 ex1 => ?_)
  obtain rfl : x1 = 1 := ex1.trans (by decide)
  refine va_sld hx hb hX hbl hbA hS (z_in (by decide : (1 : Int32).toInt = 1) (by omega) (by omega)) dL_law_478 ?_
  refine W.eq (g2 := F0 m 479 ls [.int (xs 1), .ref x0]) rfl ?_
  refine lv_aload_n hx hb dL_law_479 rfl (lv_at hl 0 rfl) ?_
  refine lv_iload_n hx hb dL_law_480 rfl (lv_at hl 3 rfl) ?_
  refine lv_iconst (v := 2) hx hb dL_law_481 (by decide) ?_
  refine lv_iadd hx hb dL_law_482 ?_
  refine lv_topi (fun x2 ex2 => ?_)
  obtain rfl : x2 = 2 := ex2.trans (by decide)
  refine va_sld hx hb hX hbl hbA hS (z_in (by decide : (2 : Int32).toInt = 2) (by omega) (by omega)) dL_law_483 ?_
  refine W.eq (g2 := F0 m 484 ls [.int (xs 2), .int (xs 1), .ref x0]) rfl ?_
  refine lv_aload_n hx hb dL_law_484 rfl (lv_at hl 0 rfl) ?_
  refine lv_iload_n hx hb dL_law_485 rfl (lv_at hl 3 rfl) ?_
  refine lv_iconst (v := 3) hx hb dL_law_486 (by decide) ?_
  refine lv_iadd hx hb dL_law_487 ?_
  refine lv_topi (fun x3 ex3 => ?_)
  obtain rfl : x3 = 3 := ex3.trans (by decide)
  refine va_sld hx hb hX hbl hbA hS (z_in (by decide : (3 : Int32).toInt = 3) (by omega) (by omega)) dL_law_488 ?_
  refine W.eq (g2 := F0 m 489 ls [.int (xs 3), .int (xs 2), .int (xs 1), .ref x0]) rfl ?_
  refine lv_aload_n hx hb dL_law_489 rfl (lv_at hl 0 rfl) ?_
  refine lv_iload_n hx hb dL_law_490 rfl (lv_at hl 3 rfl) ?_
  refine lv_iconst (v := 4) hx hb dL_law_491 (by decide) ?_
  refine lv_iadd hx hb dL_law_492 ?_
  refine lv_topi (fun x4 ex4 => ?_)
  obtain rfl : x4 = 4 := ex4.trans (by decide)
  refine va_sld hx hb hX hbl hbA hS (z_in (by decide : (4 : Int32).toInt = 4) (by omega) (by omega)) dL_law_493 ?_
  refine W.eq (g2 := F0 m 494 ls [.int (xs 4), .int (xs 3), .int (xs 2), .int (xs 1), .ref x0]) rfl ?_
  refine lv_aload_n hx hb dL_law_494 rfl (lv_at hl 0 rfl) ?_
  refine lv_iload_n hx hb dL_law_495 rfl (lv_at hl 3 rfl) ?_
  refine lv_iconst (v := 5) hx hb dL_law_496 (by decide) ?_
  refine lv_iadd hx hb dL_law_497 ?_
  refine lv_topi (fun x5 ex5 => ?_)
  obtain rfl : x5 = 5 := ex5.trans (by decide)
  refine va_sld hx hb hX hbl hbA hS (z_in (by decide : (5 : Int32).toInt = 5) (by omega) (by omega)) dL_law_498 ?_
  refine W.eq (g2 := F0 m 499 ls [.int (xs 5), .int (xs 4), .int (xs 3), .int (xs 2), .int (xs 1), .ref x0]) rfl ?_
  have hPc := hP.sub (ws' := [(x0, .inr (8, [aC, aW, .ref aT, aB, aL, aG, aM, aA, aU, aE, aD, .int 0, .int 0])), (aT, .inr (7, [.int 0, .ref aTb])), (aTb, .inl (g.2 0, 200, .inl ft))]) [0, 1, 2] rfl
  refine zc_i (va_runV (As := [.int (xs 1), .int (xs 2), .int (xs 3), .int (xs 4), .int (xs 5)]) (rest := []) ⟨hx, hb, hml, hown, hg⟩ (c_X8_book l g x0 (aC : Value) (aW : Value) aT (aB : Value) (aL : Value) (aG : Value) (aM : Value) (aA : Value) (aU : Value) (aE : Value) (aD : Value) aTb ft (xs 1) (xs 2) (xs 3) (xs 4) (xs 5) ) (cwV 5 hg (z_gV mm_544 mm_545 mm_546 mm_108 mm_547) rfl rfl rfl (by decide +kernel) ⟨Nat.le_of_ble_eq_true rfl, Nat.le_of_ble_eq_true rfl⟩) ⟨(zR.pre [.ref x0, .int (xs 1), .int (xs 2), .int (xs 3), .int (xs 4), .int (xs 5)] hPc hK hN).1, va_recv hK hPc (ci := 8) (q0 := 0) rfl rfl, (zR.pre [.ref x0, .int (xs 1), .int (xs 2), .int (xs 3), .int (xs 4), .int (xs 5)] hPc hK hN).2⟩ rfl rfl hl.1 rfl (lv_room (Nat.le_of_ble_eq_true rfl)) dL_law_499 ⟨Nat.le_of_ble_eq_true rfl, Nat.le_of_ble_eq_true rfl⟩) (fun r6 hr6 => ?_)
  obtain rfl := hr6
  refine lv_aload_n hx hb dL_law_502 rfl (lv_at hl 2 rfl) ?_
  refine lv_aload_n hx hb dL_law_503 rfl (lv_at hl 0 rfl) ?_
  refine lv_iload_n hx hb dL_law_504 rfl (lv_at hl 3 rfl) ?_
  refine lv_iconst (v := 1) hx hb dL_law_505 (by decide) ?_
  refine lv_iadd hx hb dL_law_506 ?_
  refine lv_topi (fun x7 ex7 => ?_)
  obtain rfl : x7 = 1 := ex7.trans (by decide)
  refine va_sld hx hb hX hbl hbA hS (z_in (by decide : (1 : Int32).toInt = 1) (by omega) (by omega)) dL_law_507 ?_
  refine W.eq (g2 := F0 m 508 ls [.int (xs 1), .ref m0, .int (-1)]) rfl ?_
  refine lv_aload_n hx hb dL_law_508 rfl (lv_at hl 0 rfl) ?_
  refine lv_iload_n hx hb dL_law_509 rfl (lv_at hl 3 rfl) ?_
  refine lv_iconst (v := 2) hx hb dL_law_510 (by decide) ?_
  refine lv_iadd hx hb dL_law_511 ?_
  refine lv_topi (fun x8 ex8 => ?_)
  obtain rfl : x8 = 2 := ex8.trans (by decide)
  refine va_sld hx hb hX hbl hbA hS (z_in (by decide : (2 : Int32).toInt = 2) (by omega) (by omega)) dL_law_512 ?_
  refine W.eq (g2 := F0 m 513 ls [.int (xs 2), .int (xs 1), .ref m0, .int (-1)]) rfl ?_
  refine lv_aload_n hx hb dL_law_513 rfl (lv_at hl 0 rfl) ?_
  refine lv_iload_n hx hb dL_law_514 rfl (lv_at hl 3 rfl) ?_
  refine lv_iconst (v := 3) hx hb dL_law_515 (by decide) ?_
  refine lv_iadd hx hb dL_law_516 ?_
  refine lv_topi (fun x9 ex9 => ?_)
  obtain rfl : x9 = 3 := ex9.trans (by decide)
  refine va_sld hx hb hX hbl hbA hS (z_in (by decide : (3 : Int32).toInt = 3) (by omega) (by omega)) dL_law_517 ?_
  refine W.eq (g2 := F0 m 518 ls [.int (xs 3), .int (xs 2), .int (xs 1), .ref m0, .int (-1)]) rfl ?_
  refine lv_aload_n hx hb dL_law_518 rfl (lv_at hl 0 rfl) ?_
  refine lv_iload_n hx hb dL_law_519 rfl (lv_at hl 3 rfl) ?_
  refine lv_iconst (v := 4) hx hb dL_law_520 (by decide) ?_
  refine lv_iadd hx hb dL_law_521 ?_
  refine lv_topi (fun x10 ex10 => ?_)
  obtain rfl : x10 = 4 := ex10.trans (by decide)
  refine va_sld hx hb hX hbl hbA hS (z_in (by decide : (4 : Int32).toInt = 4) (by omega) (by omega)) dL_law_522 ?_
  refine W.eq (g2 := F0 m 523 ls [.int (xs 4), .int (xs 3), .int (xs 2), .int (xs 1), .ref m0, .int (-1)]) rfl ?_
  refine lv_aload_n hx hb dL_law_523 rfl (lv_at hl 0 rfl) ?_
  refine lv_iload_n hx hb dL_law_524 rfl (lv_at hl 3 rfl) ?_
  refine lv_iconst (v := 5) hx hb dL_law_525 (by decide) ?_
  refine lv_iadd hx hb dL_law_526 ?_
  refine lv_topi (fun x11 ex11 => ?_)
  obtain rfl : x11 = 5 := ex11.trans (by decide)
  refine va_sld hx hb hX hbl hbA hS (z_in (by decide : (5 : Int32).toInt = 5) (by omega) (by omega)) dL_law_527 ?_
  refine W.eq (g2 := F0 m 528 ls [.int (xs 5), .int (xs 4), .int (xs 3), .int (xs 2), .int (xs 1), .ref m0, .int (-1)]) rfl ?_
  have hPc := hP.sub (ws' := [(m0, .inr (9, [.int 0, u1, u2, u3, u4, .int 0, .int 0, .int 0, .int 0, u9, u10, u11, u12, u13, u14, u15, .int 0, u17, u18, u19, u20, u21, u22, u23, u24, u25, u26, u27, u28, u29, u30, u31, u32, u33, u34, u35, u36, u37, u38, u39, u40, u41, u42, u43, u44, u45, u46]))]) [3] rfl
  refine zc_i (va_runV (As := [.int (xs 1), .int (xs 2), .int (xs 3), .int (xs 4), .int (xs 5)]) (rest := [.int (-1)]) ⟨hx, hb, hml, hown, hg⟩ (c_X9_book l g m0 (u1 : Value) (u2 : Value) (u3 : Value) (u4 : Value) (u9 : Value) (u10 : Value) (u11 : Value) (u12 : Value) (u13 : Value) (u14 : Value) (u15 : Value) (u17 : Value) (u18 : Value) (u19 : Value) (u20 : Value) (u21 : Value) (u22 : Value) (u23 : Value) (u24 : Value) (u25 : Value) (u26 : Value) (u27 : Value) (u28 : Value) (u29 : Value) (u30 : Value) (u31 : Value) (u32 : Value) (u33 : Value) (u34 : Value) (u35 : Value) (u36 : Value) (u37 : Value) (u38 : Value) (u39 : Value) (u40 : Value) (u41 : Value) (u42 : Value) (u43 : Value) (u44 : Value) (u45 : Value) (u46 : Value) (xs 1) (xs 2) (xs 3) (xs 4) (xs 5) ) (cwV 5 hg (z_gV mm_1148 mm_1149 mm_1150 mm_117 mm_1151) rfl rfl rfl (by decide +kernel) ⟨Nat.le_of_ble_eq_true rfl, Nat.le_of_ble_eq_true rfl⟩) ⟨(zR.pre [.ref m0, .int (xs 1), .int (xs 2), .int (xs 3), .int (xs 4), .int (xs 5)] hPc hK hN).1, va_recv hK hPc (ci := 9) (q0 := 0) rfl rfl, (zR.pre [.ref m0, .int (xs 1), .int (xs 2), .int (xs 3), .int (xs 4), .int (xs 5)] hPc hK hN).2⟩ rfl rfl hl.1 rfl (lv_room (Nat.le_of_ble_eq_true rfl)) dL_law_528 ⟨Nat.le_of_ble_eq_true rfl, Nat.le_of_ble_eq_true rfl⟩) (fun r12 hr12 => ?_)
  obtain rfl := hr12
  refine lv_icmp_eq (tgt := 1533) hx hb dL_law_531 (by decide) (fun c13 => ?_) (fun c13 => ?_)
  · skip
    refine lv_iinc (v := 6) (lv' := [(3, .int 6), (0, .ref b), (1, .ref x0), (2, .ref m0)]) hx hb dL_law_1533 hl (k := 3) rfl (by decide) (by decide) rfl (fun ls hl => ?_)
    refine lv_goto (tgt := 18) hx hb dL_law_1536 (by decide) ?_
    refine lv_iload_n hx hb dL_law_18 rfl (lv_at hl 0 rfl) ?_
    refine lv_aload_n hx hb dL_law_19 rfl (lv_at hl 1 rfl) ?_
    refine va_slen hx hb hX hbl hbA hS dL_law_20 ?_
    refine W.eq (g2 := F0 m 21 ls [.int 6, .int 6]) rfl ?_
    refine lv_bipush (v := 6) hx hb dL_law_21 (by decide) ?_
    refine lv_isub hx hb dL_law_23 ?_
    refine lv_topi (fun x14 ex14 => ?_)
    obtain rfl : x14 = 0 := ex14.trans (by decide)
    refine lv_icmp_gt (tgt := 1539) hx hb dL_law_24 (by decide) (fun c15 => ?_) (fun c15 => ?_)
    · skip
      refine lv_iconst (v := 1) hx hb dL_law_1539 (by decide) ?_
      refine va_forget (fun q hq => hA' _ (hS.2.2 q hq)) ?_
      refine W.widen (k := 600000) (n := 7302250) (Nat.le_of_ble_eq_true rfl) (Nat.le_of_ble_eq_true rfl) ?_
      exact lw_ret hx hb hr hlocks dL_law_1540
    · skip
      exact absurd c15 (by decide)
  · skip
    exact absurd c13 (by decide)

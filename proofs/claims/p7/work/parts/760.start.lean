set_option maxHeartbeats 400000000 in
set_option maxRecDepth 100000 in
theorem whole_start {p : Program} {e : Env} {s : State} {m : MethodId} {below : List Frame} {meth : Method} {c : Code} (l : Launch) (hflags : l.flags = flags0) {b L : Nat} {xs : Nat → Int32} (hL : L ≤ 3072) (C0 : lw_At p s m meth c b L xs) : W p l e room_1 s m #[Value.ref b] below meth c s.heap [] 0 0 (lw_Z below #[Value.ref b] s) (entryFrame m ([Value.ref b] : List Value).toArray 4) := by
  obtain ⟨hx, hb, hr, hml, hown, hts, hX, hbl, hlocks, hgv⟩ := id C0
  have hg : ∀ w ∈ zGW, w.before #[Value.ref b] s = true := fun w h => hts w (List.mem_filter.mp h).1
  have hown : s.vm.findClass RL = some m.cls := hown
  obtain ⟨g, hK, hN⟩ := z_start hg hts
  obtain ⟨A, hA, hA'⟩ : ∃ A : Nat → Prop, (∀ q, s.heap.size ≤ q → A q) ∧ (∀ q, A q → s.heap.size ≤ q) := ⟨fun q => s.heap.size ≤ q, fun _ h => h, fun _ h => h⟩
  have hbA : ¬ A b := fun h => absurd (hA' b h) (Nat.not_le.mpr hbl)
  have hS : va_S A s.heap s.heap [] := va_S.rf
  have hP : zP g [] s.heap := fun k q h => by simp at h
  have hD : va_D A [] := ⟨fun i j p q h => by simp at h, fun k q h => by simp at h⟩
  have hl := lv_entry ([.ref b]) (n := 4) (Nat.le_of_ble_eq_true rfl)
  rw [lg_entry_eq]
  generalize (lg_sl ([.ref b]) ++ List.replicate (4 - (lg_sl ([.ref b])).length) Slot.unset).toArray = ls at hl ⊢
  have hl : lv_has ls 4 [(0, .ref b)] := hl
  refine va_new (ci := 8) (fs := [.null, .null, .null, .null, .null, .null, .null, .null, .null, .null, .null, .int 0, .int 0]) (C := RX8) (T := TX8) (N := 13) hx hb hg inG8 tyX8 tyX8_ok hown (hg _ mm_120) (hg _ mm_121) (hg _ mm_108) hK hP hD hS hA rfl (fun j hj => by rcases (show j = 0 ∨ j = 1 ∨ j = 2 ∨ j = 3 ∨ j = 4 ∨ j = 5 ∨ j = 6 ∨ j = 7 ∨ j = 8 ∨ j = 9 ∨ j = 10 ∨ j = 11 ∨ j = 12 by omega) with rfl | rfl | rfl | rfl | rfl | rfl | rfl | rfl | rfl | rfl | rfl | rfl | rfl <;> rfl) (Nat.le_of_ble_eq_true rfl) (Nat.le_of_ble_eq_true rfl) dL_law_0 (fun q8 H hP hD hS => ?_)
  refine W.widen (k := 1) (n := 13) (Nat.le_of_ble_eq_true rfl) (Nat.le_of_ble_eq_true rfl) ?_
  refine lv_dup hx hb dL_law_3 rfl ?_
  have hPs : zP g ([(q8, (.inr (8, [.null, .null, .null, .null, .null, .null, .null, .null, .null, .null, .null, .int 0, .int 0]) : va_E))] ++ []) H := hP
  have hDs : va_D A ([(q8, (.inr (8, [.null, .null, .null, .null, .null, .null, .null, .null, .null, .null, .null, .int 0, .int 0]) : va_E))] ++ []) := hD
  have hPc : zP g [(q8, (.inr (8, [.null, .null, .null, .null, .null, .null, .null, .null, .null, .null, .null, .int 0, .int 0]) : va_E))] H := zP_l hPs
  have hDc : va_D A [(q8, (.inr (8, [.null, .null, .null, .null, .null, .null, .null, .null, .null, .null, .null, .int 0, .int 0]) : va_E))] := zD_l hDs
  have hFc : ∀ q, va_A [(q8, (.inr (8, [.null, .null, .null, .null, .null, .null, .null, .null, .null, .null, .null, .int 0, .int 0]) : va_E))] H.size q → A q := fun q h => by
    rcases h with ⟨k, e, h⟩ | h
    · exact hDc.2 k _ h
    · exact hA q (Nat.le_trans hS.1 h)
  refine va_callv (va_runI (As := []) (rest := [.ref q8]) ⟨hx, hb, hml, hown, hg⟩ (c_X8_init l g _ q8) (cwI 0 hg (z_gN mm_124) rfl rfl rfl (hg _ mm_108) (hg _ mm_122) (hg _ mm_123) rfl (by decide +kernel) ⟨Nat.le_of_ble_eq_true rfl, Nat.le_of_ble_eq_true rfl⟩) (zA.pre [.ref q8] hPc hK hDc hN) rfl rfl hl.1 rfl (lv_room (Nat.le_of_ble_eq_true rfl)) dL_law_4 ⟨Nat.le_of_ble_eq_true rfl, Nat.le_of_ble_eq_true rfl⟩) hS (fun q _ h => hFc q h) hFc (fun u t H1 locs ht hvm hr1 hB hz1 hk1 hS => ?_)
  obtain ⟨ad8, ct8, hP1, hD1, hI8, h80, hz20, hz8⟩ := hB
  rw [ht] at hP1
  obtain ⟨hPn, hDn⟩ := z_two hPs hDs hk1 hFc hP1 hD1
  clear hP hD hPs hDs hPc hDc
  rw [List.append_nil] at hPn hDn
  have hP := hPn
  have hD := hDn
  clear hPn hDn
  generalize H1 = H at hP hS ⊢
  refine W.widen (k := 177) (n := 4013) (Nat.le_of_ble_eq_true rfl) (Nat.le_of_ble_eq_true rfl) ?_
  subst h80
  refine lv_astore_n (lv' := [(1, .ref (ad8 0)), (0, .ref b)]) hx hb dL_law_7 rfl hl (by decide) rfl (fun ls hl => ?_)
  refine va_new (ci := 9) (fs := [.int 0, .null, .null, .null, .null, .int 0, .int 0, .int 0, .int 0, .null, .null, .null, .null, .null, .null, .null, .int 0, .int 0, .int 0, .int 0, .int 0, .int 0, .int 0, .int 0, .null, .null, .null, .null, .null, .null, .null, .null, .null, .null, .null, .null, .null, .null, .null, .null, .int 0, .int 0, .null, .null, .null, .null, .int 0]) (C := RX9) (T := TX9) (N := 47) hx hb hg inG9 tyX9 tyX9_ok hown (hg _ mm_951) (hg _ mm_952) (hg _ mm_117) hK hP hD hS hA rfl (fun j hj => by rcases (show j = 0 ∨ j = 1 ∨ j = 2 ∨ j = 3 ∨ j = 4 ∨ j = 5 ∨ j = 6 ∨ j = 7 ∨ j = 8 ∨ j = 9 ∨ j = 10 ∨ j = 11 ∨ j = 12 ∨ j = 13 ∨ j = 14 ∨ j = 15 ∨ j = 16 ∨ j = 17 ∨ j = 18 ∨ j = 19 ∨ j = 20 ∨ j = 21 ∨ j = 22 ∨ j = 23 ∨ j = 24 ∨ j = 25 ∨ j = 26 ∨ j = 27 ∨ j = 28 ∨ j = 29 ∨ j = 30 ∨ j = 31 ∨ j = 32 ∨ j = 33 ∨ j = 34 ∨ j = 35 ∨ j = 36 ∨ j = 37 ∨ j = 38 ∨ j = 39 ∨ j = 40 ∨ j = 41 ∨ j = 42 ∨ j = 43 ∨ j = 44 ∨ j = 45 ∨ j = 46 by omega) with rfl | rfl | rfl | rfl | rfl | rfl | rfl | rfl | rfl | rfl | rfl | rfl | rfl | rfl | rfl | rfl | rfl | rfl | rfl | rfl | rfl | rfl | rfl | rfl | rfl | rfl | rfl | rfl | rfl | rfl | rfl | rfl | rfl | rfl | rfl | rfl | rfl | rfl | rfl | rfl | rfl | rfl | rfl | rfl | rfl | rfl | rfl <;> rfl) (Nat.le_of_ble_eq_true rfl) (Nat.le_of_ble_eq_true rfl) dL_law_8 (fun q9 H hP hD hS => ?_)
  refine W.widen (k := 178) (n := 4060) (Nat.le_of_ble_eq_true rfl) (Nat.le_of_ble_eq_true rfl) ?_
  refine lv_dup hx hb dL_law_11 rfl ?_
  have hPs := z_swapP hP
  have hDs := z_swapD hD
  have hPc : zP g [(q9, (.inr (9, [.int 0, .null, .null, .null, .null, .int 0, .int 0, .int 0, .int 0, .null, .null, .null, .null, .null, .null, .null, .int 0, .int 0, .int 0, .int 0, .int 0, .int 0, .int 0, .int 0, .null, .null, .null, .null, .null, .null, .null, .null, .null, .null, .null, .null, .null, .null, .null, .null, .int 0, .int 0, .null, .null, .null, .null, .int 0]) : va_E))] H := zP_l hPs
  have hDc : va_D A [(q9, (.inr (9, [.int 0, .null, .null, .null, .null, .int 0, .int 0, .int 0, .int 0, .null, .null, .null, .null, .null, .null, .null, .int 0, .int 0, .int 0, .int 0, .int 0, .int 0, .int 0, .int 0, .null, .null, .null, .null, .null, .null, .null, .null, .null, .null, .null, .null, .null, .null, .null, .null, .int 0, .int 0, .null, .null, .null, .null, .int 0]) : va_E))] := zD_l hDs
  have hFc : ∀ q, va_A [(q9, (.inr (9, [.int 0, .null, .null, .null, .null, .int 0, .int 0, .int 0, .int 0, .null, .null, .null, .null, .null, .null, .null, .int 0, .int 0, .int 0, .int 0, .int 0, .int 0, .int 0, .int 0, .null, .null, .null, .null, .null, .null, .null, .null, .null, .null, .null, .null, .null, .null, .null, .null, .int 0, .int 0, .null, .null, .null, .null, .int 0]) : va_E))] H.size q → A q := fun q h => by
    rcases h with ⟨k, e, h⟩ | h
    · exact hDc.2 k _ h
    · exact hA q (Nat.le_trans hS.1 h)
  refine va_callv (va_runI (As := []) (rest := [.ref q9]) ⟨hx, hb, hml, hown, hg⟩ (c_X9_init l g _ q9) (cwI 0 hg (z_gN mm_955) rfl rfl rfl (hg _ mm_117) (hg _ mm_953) (hg _ mm_954) rfl (by decide +kernel) ⟨Nat.le_of_ble_eq_true rfl, Nat.le_of_ble_eq_true rfl⟩) (zA.pre [.ref q9] hPc hK hDc hN) rfl rfl hl.1 rfl (lv_room (Nat.le_of_ble_eq_true rfl)) dL_law_12 ⟨Nat.le_of_ble_eq_true rfl, Nat.le_of_ble_eq_true rfl⟩) hS (fun q _ h => hFc q h) hFc (fun u t H1 locs ht hvm hr1 hB hz1 hk1 hS => ?_)
  obtain ⟨ad9, ct9, hP1, hD1, hI9, h90, hz9⟩ := hB
  rw [ht] at hP1
  obtain ⟨hPn, hDn⟩ := z_two hPs hDs hk1 hFc hP1 hD1
  clear hP hD hPs hDs hPc hDc
  have hP := z_swapP hPn
  have hD := z_swapD hDn
  clear hPn hDn
  generalize H1 = H at hP hS ⊢
  refine W.widen (k := 210) (n := 204120) (Nat.le_of_ble_eq_true rfl) (Nat.le_of_ble_eq_true rfl) ?_
  subst h90
  refine lv_astore_n (lv' := [(2, .ref (ad9 0)), (1, .ref (ad8 0)), (0, .ref b)]) hx hb dL_law_15 rfl hl (by decide) rfl (fun ls hl => ?_)
  refine lv_iconst (v := 0) hx hb dL_law_16 (by decide) ?_
  refine lv_istore_n (lv' := [(3, .int 0), (2, .ref (ad9 0)), (1, .ref (ad8 0)), (0, .ref b)]) hx hb dL_law_17 rfl hl (by decide) rfl (fun ls hl => ?_)
  have hT : tieT ad8 ad9 := tieT_0 hz8 hz9
  have hz131 : zlen (ct8 20) ≤ 131072 := by
    obtain ⟨n_q, f_q, z1, z2, z3⟩ := a8_20 hI8
    rw [z3]
    exact z2
  have hJ : lwJ 210 204120 (zlen (ct8 20)) := ⟨⟨0, by decide, hz20⟩, by omega, hz131⟩
  have hloop : ∀ (n : Nat) (i : Int32) (ad8b ad9b : Nat → Nat) (ct8b ct9b : Nat → va_E) (peb meb : Int32) (H : Heap) (locs : List Loc) (kq nq : Nat) (ls : Array Slot), ((L : Int) + 6 - i.toInt).toNat < n → 0 ≤ i.toInt → i.toInt ≤ 3078 → ad8b 0 = ad8 0 → ad9b 0 = ad9 0 → zP g (zw 126 ad8b ct8b ++ zw 32 ad9b ct9b) H → va_D A (zw 126 ad8b ct8b ++ zw 32 ad9b ct9b) → va_S A s.heap H locs → Inv8 g ad8b peb ct8b → IR g ad9b meb ct9b → tieT ad8b ad9b → lwJ kq nq (zlen (ct8b 20)) → lv_has ls 4 [(0, .ref b), (1, .ref (ad8 0)), (2, .ref (ad9 0)), (3, .int i)] → W p l e room_1 s m #[Value.ref b] below meth c H locs kq nq (lw_Z below #[Value.ref b] s) (F0 m 18 ls []) := by
    intro n
    induction n with
    | zero => intro i ad8b ad9b ct8b ct9b peb meb H locs kq nq ls hn; exact absurd hn (Nat.not_lt_zero _)
    | succ n ih =>
      intro i ad8b ad9b ct8b ct9b peb meb H locs kq nq ls hn hi0 hi1 h80 h90 hP hD hS hI8 hI9 hT hJ hl
      refine lv_iload_n hx hb dL_law_18 rfl (lv_at hl 3 rfl) ?_
      refine lv_aload_n hx hb dL_law_19 rfl (lv_at hl 0 rfl) ?_
      refine va_slen hx hb hX hbl hbA hS dL_law_20 ?_
      have hLI : (Int32.ofNat L).toInt = (L : Int) := nI_toInt (by omega)
      refine lv_bipush (v := 6) hx hb dL_law_21 (by decide) ?_
      refine lv_isub hx hb dL_law_23 ?_
      refine lv_topi (fun x1 ex1 => ?_)
      have tx1 : x1.toInt = (L : Int) - 6 := by rw [ex1]; exact z_sub hLI (by decide : (6 : Int32).toInt = 6) (by omega) (by omega)
      refine lv_icmp_gt (tgt := 1537) hx hb dL_law_24 (by decide) (fun c1 => ?_) (fun c1 => ?_)
      · refine lv_iconst (v := 1) hx hb dL_law_1537 (by decide) ?_
        have hjb := lwJ_b hJ
        refine va_forget (fun q hq => hA' _ (hS.2.2 q hq)) ?_
        refine W.widen (k := 600000) (n := 7302250) (by omega) (by omega) ?_
        exact lw_ret hx hb hr hlocks dL_law_1538
      · have c1 : ¬ (x1.toInt < i.toInt) := fun q => c1 ((z_lt rfl rfl).mpr q)
        refine lv_aload_n hx hb dL_law_27 rfl (lv_at hl 0 rfl) ?_
        refine lv_iload_n hx hb dL_law_28 rfl (lv_at hl 3 rfl) ?_
        refine va_sld hx hb hX hbl hbA hS (z_in rfl (by omega) (by omega)) dL_law_29 ?_
        refine lv_topi (fun y0 ey0 => ?_)
        refine lv_bipush (v := 31) hx hb dL_law_30 (by decide) ?_
        refine lv_iand hx hb dL_law_32 ?_
        refine lv_topi (fun y1 ey1 => ?_)
        have ty1 := z_andr (x := y0) (y := 31) (by decide : (31 : Int32).toInt = 31) (by omega)
        rw [← ey1] at ty1
        have kk : ∀ (ad8b ad9b : Nat → Nat) (ct8b ct9b : Nat → va_E) (peb meb : Int32) (H : Heap) (locs : List Loc) (kq nq : Nat) (ls : Array Slot), ad8b 0 = ad8 0 → ad9b 0 = ad9 0 → zP g (zw 126 ad8b ct8b ++ zw 32 ad9b ct9b) H → va_D A (zw 126 ad8b ct8b ++ zw 32 ad9b ct9b) → va_S A s.heap H locs → Inv8 g ad8b peb ct8b → IR g ad9b meb ct9b → tieT ad8b ad9b → lwJ kq nq (zlen (ct8b 20)) → lv_has ls 4 [(0, .ref b), (1, .ref (ad8 0)), (2, .ref (ad9 0)), (3, .int i)] → W p l e room_1 s m #[Value.ref b] below meth c H locs kq nq (lw_Z below #[Value.ref b] s) (F0 m 1531 ls []) := by
          intro ad8c ad9c ct8c ct9c pec mec H locs kq nq ls k80 k90 hP hD hS hI8 hI9 hT hJ hl
          obtain ⟨x2, ex2⟩ : ∃ y : Int32, y = i + 6 := ⟨_, rfl⟩
          have tx2 : x2.toInt = i.toInt + 6 := by rw [ex2]; exact z_add rfl (by decide : (6 : Int32).toInt = 6) (by omega) (by omega)
          refine lv_iinc (v := x2) (lv' := [(3, .int x2), (0, .ref b), (1, .ref (ad8 0)), (2, .ref (ad9 0))]) hx hb dL_law_1531 hl (k := 3) rfl (by rw [ex2]; rfl) (by decide) rfl (fun ls hl => ?_)
          refine lv_goto (tgt := 18) hx hb dL_law_1534 (by decide) ?_
          exact ih x2 ad8c ad9c ct8c ct9c pec mec _ _ kq nq ls (by omega) (by omega) (by omega) k80 k90 hP hD hS hI8 hI9 hT hJ (lv_sub hl [1, 2, 3, 0] rfl)
        rcases (show y1.toInt = 0 ∨ y1.toInt = 1 ∨ y1.toInt = 2 ∨ y1.toInt = 3 ∨ y1.toInt = 4 ∨ y1.toInt = 5 ∨ y1.toInt = 6 ∨ y1.toInt = 7 ∨ y1.toInt = 8 ∨ y1.toInt = 9 ∨ y1.toInt = 10 ∨ y1.toInt = 11 ∨ y1.toInt = 12 ∨ y1.toInt = 13 ∨ y1.toInt = 14 ∨ y1.toInt = 15 ∨ y1.toInt = 16 ∨ y1.toInt = 17 ∨ y1.toInt = 18 ∨ y1.toInt = 19 ∨ y1.toInt = 20 ∨ y1.toInt = 21 ∨ y1.toInt = 22 ∨ y1.toInt = 23 ∨ y1.toInt = 24 ∨ y1.toInt = 25 ∨ y1.toInt = 26 ∨ y1.toInt = 27 ∨ y1.toInt = 28 ∨ y1.toInt = 29 ∨ y1.toInt = 30 ∨ y1.toInt = 31 by omega) with hw | hw | hw | hw | hw | hw | hw | hw | hw | hw | hw | hw | hw | hw | hw | hw | hw | hw | hw | hw | hw | hw | hw | hw | hw | hw | hw | hw | hw | hw | hw | hw
        · refine lv_tableIn (tgt := 172) (off := 139) hx hb dL_law_33 (by omega) (by omega) (by rw [hw]; rfl) (by decide) ?_
          exact op_upper l C0 g hK hN hA hA' (ad8 0) (ad9 0) i ⟨hi0, by omega⟩ (by omega) kk ad8b ad9b ct8b ct9b peb meb H locs kq nq ls h80 h90 hP hD hS hI8 hI9 hT hJ hl
        · refine lv_tableIn (tgt := 215) (off := 182) hx hb dL_law_33 (by omega) (by omega) (by rw [hw]; rfl) (by decide) ?_
          exact op_weight l C0 g hK hN hA hA' (ad8 0) (ad9 0) i ⟨hi0, by omega⟩ (by omega) kk ad8b ad9b ct8b ct9b peb meb H locs kq nq ls h80 h90 hP hD hS hI8 hI9 hT hJ hl
        · refine lv_tableIn (tgt := 248) (off := 215) hx hb dL_law_33 (by omega) (by omega) (by rw [hw]; rfl) (by decide) ?_
          exact op_person l C0 g hK hN hA hA' (ad8 0) (ad9 0) i ⟨hi0, by omega⟩ (by omega) kk ad8b ad9b ct8b ct9b peb meb H locs kq nq ls h80 h90 hP hD hS hI8 hI9 hT hJ hl
        · refine lv_tableIn (tgt := 301) (off := 268) hx hb dL_law_33 (by omega) (by omega) (by rw [hw]; rfl) (by decide) ?_
          exact op_wish l C0 g hK hN hA hA' (ad8 0) (ad9 0) i ⟨hi0, by omega⟩ (by omega) kk ad8b ad9b ct8b ct9b peb meb H locs kq nq ls h80 h90 hP hD hS hI8 hI9 hT hJ hl
        · refine lv_tableIn (tgt := 334) (off := 301) hx hb dL_law_33 (by omega) (by omega) (by rw [hw]; rfl) (by decide) ?_
          exact op_feed l C0 g hK hN hA hA' (ad8 0) (ad9 0) i ⟨hi0, by omega⟩ (by omega) kk ad8b ad9b ct8b ct9b peb meb H locs kq nq ls h80 h90 hP hD hS hI8 hI9 hT hJ hl
        · refine lv_tableIn (tgt := 397) (off := 364) hx hb dL_law_33 (by omega) (by omega) (by rw [hw]; rfl) (by decide) ?_
          exact op_blurred l C0 g hK hN hA hA' (ad8 0) (ad9 0) i ⟨hi0, by omega⟩ (by omega) kk ad8b ad9b ct8b ct9b peb meb H locs kq nq ls h80 h90 hP hD hS hI8 hI9 hT hJ hl
        · refine lv_tableIn (tgt := 440) (off := 407) hx hb dL_law_33 (by omega) (by omega) (by rw [hw]; rfl) (by decide) ?_
          exact op_size l C0 g hK hN hA hA' (ad8 0) (ad9 0) i ⟨hi0, by omega⟩ (by omega) kk ad8b ad9b ct8b ct9b peb meb H locs kq nq ls h80 h90 hP hD hS hI8 hI9 hT hJ hl
        · refine lv_tableIn (tgt := 473) (off := 440) hx hb dL_law_33 (by omega) (by omega) (by rw [hw]; rfl) (by decide) ?_
          exact op_book l C0 g hK hN hA hA' (ad8 0) (ad9 0) i ⟨hi0, by omega⟩ (by omega) kk ad8b ad9b ct8b ct9b peb meb H locs kq nq ls h80 h90 hP hD hS hI8 hI9 hT hJ hl
        · refine lv_tableIn (tgt := 536) (off := 503) hx hb dL_law_33 (by omega) (by omega) (by rw [hw]; rfl) (by decide) ?_
          exact op_cut l C0 g hK hN hA hA' (ad8 0) (ad9 0) i ⟨hi0, by omega⟩ (by omega) kk ad8b ad9b ct8b ct9b peb meb H locs kq nq ls h80 h90 hP hD hS hI8 hI9 hT hJ hl
        · refine lv_tableIn (tgt := 569) (off := 536) hx hb dL_law_33 (by omega) (by omega) (by rw [hw]; rfl) (by decide) ?_
          exact op_swap l C0 g hK hN hA hA' (ad8 0) (ad9 0) i ⟨hi0, by omega⟩ (by omega) kk ad8b ad9b ct8b ct9b peb meb H locs kq nq ls h80 h90 hP hD hS hI8 hI9 hT hJ hl
        · refine lv_tableIn (tgt := 622) (off := 589) hx hb dL_law_33 (by omega) (by omega) (by rw [hw]; rfl) (by decide) ?_
          exact op_show l C0 g hK hN hA hA' (ad8 0) (ad9 0) i ⟨hi0, by omega⟩ (by omega) kk ad8b ad9b ct8b ct9b peb meb H locs kq nq ls h80 h90 hP hD hS hI8 hI9 hT hJ hl
        · refine lv_tableIn (tgt := 671) (off := 638) hx hb dL_law_33 (by omega) (by omega) (by rw [hw]; rfl) (by decide) ?_
          exact op_link l C0 g hK hN hA hA' (ad8 0) (ad9 0) i ⟨hi0, by omega⟩ (by omega) kk ad8b ad9b ct8b ct9b peb meb H locs kq nq ls h80 h90 hP hD hS hI8 hI9 hT hJ hl
        · refine lv_tableIn (tgt := 724) (off := 691) hx hb dL_law_33 (by omega) (by omega) (by rw [hw]; rfl) (by decide) ?_
          exact op_gossip l C0 g hK hN hA hA' (ad8 0) (ad9 0) i ⟨hi0, by omega⟩ (by omega) kk ad8b ad9b ct8b ct9b peb meb H locs kq nq ls h80 h90 hP hD hS hI8 hI9 hT hJ hl
        · refine lv_tableIn (tgt := 777) (off := 744) hx hb dL_law_33 (by omega) (by omega) (by rw [hw]; rfl) (by decide) ?_
          exact op_line l C0 g hK hN hA hA' (ad8 0) (ad9 0) i ⟨hi0, by omega⟩ (by omega) kk ad8b ad9b ct8b ct9b peb meb H locs kq nq ls h80 h90 hP hD hS hI8 hI9 hT hJ hl
        · refine lv_tableIn (tgt := 820) (off := 787) hx hb dL_law_33 (by omega) (by omega) (by rw [hw]; rfl) (by decide) ?_
          exact op_fits l C0 g hK hN hA hA' (ad8 0) (ad9 0) i ⟨hi0, by omega⟩ (by omega) kk ad8b ad9b ct8b ct9b peb meb H locs kq nq ls h80 h90 hP hD hS hI8 hI9 hT hJ hl
        · refine lv_tableIn (tgt := 863) (off := 830) hx hb dL_law_33 (by omega) (by omega) (by rw [hw]; rfl) (by decide) ?_
          exact op_givings l C0 g hK hN hA hA' (ad8 0) (ad9 0) i ⟨hi0, by omega⟩ (by omega) kk ad8b ad9b ct8b ct9b peb meb H locs kq nq ls h80 h90 hP hD hS hI8 hI9 hT hJ hl
        · refine lv_tableIn (tgt := 896) (off := 863) hx hb dL_law_33 (by omega) (by omega) (by rw [hw]; rfl) (by decide) ?_
          exact op_odds l C0 g hK hN hA hA' (ad8 0) (ad9 0) i ⟨hi0, by omega⟩ (by omega) kk ad8b ad9b ct8b ct9b peb meb H locs kq nq ls h80 h90 hP hD hS hI8 hI9 hT hJ hl
        · refine lv_tableIn (tgt := 959) (off := 926) hx hb dL_law_33 (by omega) (by omega) (by rw [hw]; rfl) (by decide) ?_
          exact op_mustBe l C0 g hK hN hA hA' (ad8 0) (ad9 0) i ⟨hi0, by omega⟩ (by omega) kk ad8b ad9b ct8b ct9b peb meb H locs kq nq ls h80 h90 hP hD hS hI8 hI9 hT hJ hl
        · refine lv_tableIn (tgt := 1012) (off := 979) hx hb dL_law_33 (by omega) (by omega) (by rw [hw]; rfl) (by decide) ?_
          exact op_giving l C0 g hK hN hA hA' (ad8 0) (ad9 0) i ⟨hi0, by omega⟩ (by omega) kk ad8b ad9b ct8b ct9b peb meb H locs kq nq ls h80 h90 hP hD hS hI8 hI9 hT hJ hl
        · refine lv_tableIn (tgt := 1055) (off := 1022) hx hb dL_law_33 (by omega) (by omega) (by rw [hw]; rfl) (by decide) ?_
          exact op_tooFew l C0 g hK hN hA hA' (ad8 0) (ad9 0) i ⟨hi0, by omega⟩ (by omega) kk ad8b ad9b ct8b ct9b peb meb H locs kq nq ls h80 h90 hP hD hS hI8 hI9 hT hJ hl
        · refine lv_tableIn (tgt := 1088) (off := 1055) hx hb dL_law_33 (by omega) (by omega) (by rw [hw]; rfl) (by decide) ?_
          exact op_steps l C0 g hK hN hA hA' (ad8 0) (ad9 0) i ⟨hi0, by omega⟩ (by omega) kk ad8b ad9b ct8b ct9b peb meb H locs kq nq ls h80 h90 hP hD hS hI8 hI9 hT hJ hl
        · refine lv_tableIn (tgt := 1131) (off := 1098) hx hb dL_law_33 (by omega) (by omega) (by rw [hw]; rfl) (by decide) ?_
          exact op_safe l C0 g hK hN hA hA' (ad8 0) (ad9 0) i ⟨hi0, by omega⟩ (by omega) kk ad8b ad9b ct8b ct9b peb meb H locs kq nq ls h80 h90 hP hD hS hI8 hI9 hT hJ hl
        · refine lv_tableIn (tgt := 1174) (off := 1141) hx hb dL_law_33 (by omega) (by omega) (by rw [hw]; rfl) (by decide) ?_
          exact op_fewest l C0 g hK hN hA hA' (ad8 0) (ad9 0) i ⟨hi0, by omega⟩ (by omega) kk ad8b ad9b ct8b ct9b peb meb H locs kq nq ls h80 h90 hP hD hS hI8 hI9 hT hJ hl
        · refine lv_tableIn (tgt := 1217) (off := 1184) hx hb dL_law_33 (by omega) (by omega) (by rw [hw]; rfl) (by decide) ?_
          exact op_questions l C0 g hK hN hA hA' (ad8 0) (ad9 0) i ⟨hi0, by omega⟩ (by omega) kk ad8b ad9b ct8b ct9b peb meb H locs kq nq ls h80 h90 hP hD hS hI8 hI9 hT hJ hl
        · refine lv_tableIn (tgt := 1270) (off := 1237) hx hb dL_law_33 (by omega) (by omega) (by rw [hw]; rfl) (by decide) ?_
          exact op_blurring l C0 g hK hN hA hA' (ad8 0) (ad9 0) i ⟨hi0, by omega⟩ (by omega) kk ad8b ad9b ct8b ct9b peb meb H locs kq nq ls h80 h90 hP hD hS hI8 hI9 hT hJ hl
        · refine lv_tableIn (tgt := 1323) (off := 1290) hx hb dL_law_33 (by omega) (by omega) (by rw [hw]; rfl) (by decide) ?_
          exact op_bestSwap l C0 g hK hN hA hA' (ad8 0) (ad9 0) i ⟨hi0, by omega⟩ (by omega) kk ad8b ad9b ct8b ct9b peb meb H locs kq nq ls h80 h90 hP hD hS hI8 hI9 hT hJ hl
        · refine lv_tableIn (tgt := 1366) (off := 1333) hx hb dL_law_33 (by omega) (by omega) (by rw [hw]; rfl) (by decide) ?_
          exact op_together l C0 g hK hN hA hA' (ad8 0) (ad9 0) i ⟨hi0, by omega⟩ (by omega) kk ad8b ad9b ct8b ct9b peb meb H locs kq nq ls h80 h90 hP hD hS hI8 hI9 hT hJ hl
        · refine lv_tableIn (tgt := 1399) (off := 1366) hx hb dL_law_33 (by omega) (by omega) (by rw [hw]; rfl) (by decide) ?_
          exact op_loss l C0 g hK hN hA hA' (ad8 0) (ad9 0) i ⟨hi0, by omega⟩ (by omega) kk ad8b ad9b ct8b ct9b peb meb H locs kq nq ls h80 h90 hP hD hS hI8 hI9 hT hJ hl
        · refine lv_tableIn (tgt := 1422) (off := 1389) hx hb dL_law_33 (by omega) (by omega) (by rw [hw]; rfl) (by decide) ?_
          exact op_linesOf l C0 g hK hN hA hA' (ad8 0) (ad9 0) i ⟨hi0, by omega⟩ (by omega) kk ad8b ad9b ct8b ct9b peb meb H locs kq nq ls h80 h90 hP hD hS hI8 hI9 hT hJ hl
        · refine lv_tableIn (tgt := 1465) (off := 1432) hx hb dL_law_33 (by omega) (by omega) (by rw [hw]; rfl) (by decide) ?_
          exact op_check l C0 g hK hN hA hA' (ad8 0) (ad9 0) i ⟨hi0, by omega⟩ (by omega) kk ad8b ad9b ct8b ct9b peb meb H locs kq nq ls h80 h90 hP hD hS hI8 hI9 hT hJ hl
        · refine lv_tableIn (tgt := 1508) (off := 1475) hx hb dL_law_33 (by omega) (by omega) (by rw [hw]; rfl) (by decide) ?_
          exact op_count l C0 g hK hN hA hA' (ad8 0) (ad9 0) i ⟨hi0, by omega⟩ (by omega) kk ad8b ad9b ct8b ct9b peb meb H locs kq nq ls h80 h90 hP hD hS hI8 hI9 hT hJ hl
        · refine lv_tableOut (tgt := 1531) hx hb dL_law_33 (by omega) (by decide) ?_
          exact kk ad8b ad9b ct8b ct9b peb meb H locs kq nq ls h80 h90 hP hD hS hI8 hI9 hT hJ hl
  exact hloop (((L : Int) + 6 - ((0 : Int32)).toInt).toNat + 1) 0 ad8 ad9 ct8 ct9 0 0 _ _ 210 204120 ls (Nat.lt_succ_self _) (by decide) (by decide) rfl rfl hP hD hS hI8 hI9 hT hJ (lv_sub hl [3, 2, 1, 0] rfl)

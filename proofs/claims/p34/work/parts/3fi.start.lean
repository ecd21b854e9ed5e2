set_option maxHeartbeats 400000000 in
set_option maxRecDepth 100000 in
theorem whole_start {p : Program} {e : Env} {s : State} {m : MethodId} {below : List Frame} {meth : Method} {c : Code} (l : Launch) (hflags : l.flags = flags0) {b L : Nat} {xs : Nat → Int32} (hL : L ≤ 260) (C0 : lw_At p s m meth c b L xs) : W p l e room_1 s m #[Value.ref b] below meth c s.heap [] 0 0 (lw_Z below #[Value.ref b] s) (entryFrame m ([Value.ref b] : List Value).toArray 13) := by
  obtain ⟨hx, hb, hr, hml, hown, hts, hX, hbl, hlocks, hgv⟩ := id C0
  have hg : ∀ w ∈ zGW, w.before #[Value.ref b] s = true := fun w h => hts w (List.mem_filter.mp h).1
  have hown : s.vm.findClass RL = some m.cls := hown
  obtain ⟨g, hK, hN⟩ := z_start hg hts
  obtain ⟨A, hA, hA'⟩ : ∃ A : Nat → Prop, (∀ q, s.heap.size ≤ q → A q) ∧ (∀ q, A q → s.heap.size ≤ q) := ⟨fun q => s.heap.size ≤ q, fun _ h => h, fun _ h => h⟩
  have hbA : ¬ A b := fun h => absurd (hA' b h) (Nat.not_le.mpr hbl)
  have hS : va_S A s.heap s.heap [] := va_S.rf
  have hP : zP g [] s.heap := fun k q h => by simp at h
  have hD : va_D A [] := ⟨fun i j p q h => by simp at h, fun k q h => by simp at h⟩
  have hl := lv_entry ([.ref b]) (n := 13) (Nat.le_of_ble_eq_true rfl)
  rw [lg_entry_eq]
  generalize (lg_sl ([.ref b]) ++ List.replicate (13 - (lg_sl ([.ref b])).length) Slot.unset).toArray = ls at hl ⊢
  have hl : lv_has ls 13 [(0, .ref b)] := hl
  refine va_new (ci := 8) (fs := [.null, .null, .null, .null, .null, .null, .null, .null, .null, .null, .null, .int 0, .int 0]) (C := RX8) (T := TX8) (N := 13) hx hb hg inG8 tyX8 tyX8_ok hown (hg _ mm_63) (hg _ mm_64) (hg _ mm_52) hK hP hD hS hA rfl (fun j hj => by rcases (show j = 0 ∨ j = 1 ∨ j = 2 ∨ j = 3 ∨ j = 4 ∨ j = 5 ∨ j = 6 ∨ j = 7 ∨ j = 8 ∨ j = 9 ∨ j = 10 ∨ j = 11 ∨ j = 12 by omega) with rfl | rfl | rfl | rfl | rfl | rfl | rfl | rfl | rfl | rfl | rfl | rfl | rfl <;> rfl) (Nat.le_of_ble_eq_true rfl) (Nat.le_of_ble_eq_true rfl) dL_law_0 (fun q1 H hP hD hS => ?_)
  refine W.widen (k := 1) (n := 13) (Nat.le_of_ble_eq_true rfl) (Nat.le_of_ble_eq_true rfl) ?_
  refine lv_dup hx hb dL_law_3 rfl ?_
  have hPs : zP g ([(q1, (.inr (8, [.null, .null, .null, .null, .null, .null, .null, .null, .null, .null, .null, .int 0, .int 0]) : va_E))] ++ []) H := hP
  have hDs : va_D A ([(q1, (.inr (8, [.null, .null, .null, .null, .null, .null, .null, .null, .null, .null, .null, .int 0, .int 0]) : va_E))] ++ []) := hD
  have hPc : zP g [(q1, (.inr (8, [.null, .null, .null, .null, .null, .null, .null, .null, .null, .null, .null, .int 0, .int 0]) : va_E))] H := zP_l hPs
  have hDc : va_D A [(q1, (.inr (8, [.null, .null, .null, .null, .null, .null, .null, .null, .null, .null, .null, .int 0, .int 0]) : va_E))] := zD_l hDs
  have hFc : ∀ q, va_A [(q1, (.inr (8, [.null, .null, .null, .null, .null, .null, .null, .null, .null, .null, .null, .int 0, .int 0]) : va_E))] H.size q → A q := fun q h => by
    rcases h with ⟨k, e, h⟩ | h
    · exact hDc.2 k _ h
    · exact hA q (Nat.le_trans hS.1 h)
  refine va_callv (va_runI (As := []) (rest := [.ref q1]) ⟨hx, hb, hml, hown, hg⟩ (c_X8_init l g _ q1) (cwI 0 hg (z_gN mm_67) rfl rfl rfl (hg _ mm_52) (hg _ mm_65) (hg _ mm_66) rfl (by decide +kernel) ⟨(Nat.le_of_ble_eq_true rfl), (Nat.le_of_ble_eq_true rfl)⟩) (zA.pre [.ref q1] hPc hK hDc hN) rfl rfl hl.1 rfl (lv_room (Nat.le_of_ble_eq_true rfl)) dL_law_4 ⟨(Nat.le_of_ble_eq_true rfl), (Nat.le_of_ble_eq_true rfl)⟩) hS (fun q _ h => hFc q h) hFc (fun u t H1 locs ht hvm hr1 hB hz1 hk1 hS => ?_)
  obtain ⟨ad1, ct8, hP1, hD1, hst, h80⟩ := hB
  rw [ht] at hP1
  have hP2 := st34P hst hP1
  have hD2 := st34D (g := g) (ct2 := cNew g) hD1
  obtain ⟨hPn, hDn⟩ := z_two hPs hDs hk1 hFc hP2 hD2
  clear hP hD hPs hDs hPc hDc hP1 hD1 hP2 hD2 hst hFc
  rw [List.append_nil] at hPn hDn
  have hP := hPn
  have hD := hDn
  clear hPn hDn
  generalize H1 = H at hP hS ⊢
  refine W.widen (k := 177) (n := 4013) (Nat.le_of_ble_eq_true rfl) (Nat.le_of_ble_eq_true rfl) ?_
  subst h80
  refine lv_astore_n (lv' := [(1, .ref (ad1 0)), (0, .ref b)]) hx hb dL_law_7 rfl hl (by decide) rfl (fun ls hl => ?_)
  refine va_new (ci := 8) (fs := [.null, .null, .null, .null, .null, .null, .null, .null, .null, .null, .null, .int 0, .int 0]) (C := RX8) (T := TX8) (N := 13) hx hb hg inG8 tyX8 tyX8_ok hown (hg _ mm_63) (hg _ mm_64) (hg _ mm_52) hK hP hD hS hA rfl (fun j hj => by rcases (show j = 0 ∨ j = 1 ∨ j = 2 ∨ j = 3 ∨ j = 4 ∨ j = 5 ∨ j = 6 ∨ j = 7 ∨ j = 8 ∨ j = 9 ∨ j = 10 ∨ j = 11 ∨ j = 12 by omega) with rfl | rfl | rfl | rfl | rfl | rfl | rfl | rfl | rfl | rfl | rfl | rfl | rfl <;> rfl) (Nat.le_of_ble_eq_true rfl) (Nat.le_of_ble_eq_true rfl) dL_law_8 (fun q2 H hP hD hS => ?_)
  refine W.widen (k := 178) (n := 4026) (Nat.le_of_ble_eq_true rfl) (Nat.le_of_ble_eq_true rfl) ?_
  refine lv_dup hx hb dL_law_11 rfl ?_
  have hPs : zP g ([(q2, (.inr (8, [.null, .null, .null, .null, .null, .null, .null, .null, .null, .null, .null, .int 0, .int 0]) : va_E))] ++ dW pAll ad1 (cNew g)) H := zP_perm pm_3 hP
  have hDs : va_D A ([(q2, (.inr (8, [.null, .null, .null, .null, .null, .null, .null, .null, .null, .null, .null, .int 0, .int 0]) : va_E))] ++ dW pAll ad1 (cNew g)) := zD_perm pm_3 hD
  have hPc : zP g [(q2, (.inr (8, [.null, .null, .null, .null, .null, .null, .null, .null, .null, .null, .null, .int 0, .int 0]) : va_E))] H := zP_l hPs
  have hDc : va_D A [(q2, (.inr (8, [.null, .null, .null, .null, .null, .null, .null, .null, .null, .null, .null, .int 0, .int 0]) : va_E))] := zD_l hDs
  have hFc : ∀ q, va_A [(q2, (.inr (8, [.null, .null, .null, .null, .null, .null, .null, .null, .null, .null, .null, .int 0, .int 0]) : va_E))] H.size q → A q := fun q h => by
    rcases h with ⟨k, e, h⟩ | h
    · exact hDc.2 k _ h
    · exact hA q (Nat.le_trans hS.1 h)
  refine va_callv (va_runI (As := []) (rest := [.ref q2]) ⟨hx, hb, hml, hown, hg⟩ (c_X8_init l g _ q2) (cwI 0 hg (z_gN mm_67) rfl rfl rfl (hg _ mm_52) (hg _ mm_65) (hg _ mm_66) rfl (by decide +kernel) ⟨(Nat.le_of_ble_eq_true rfl), (Nat.le_of_ble_eq_true rfl)⟩) (zA.pre [.ref q2] hPc hK hDc hN) rfl rfl hl.1 rfl (lv_room (Nat.le_of_ble_eq_true rfl)) dL_law_12 ⟨(Nat.le_of_ble_eq_true rfl), (Nat.le_of_ble_eq_true rfl)⟩) hS (fun q _ h => hFc q h) hFc (fun u t H1 locs ht hvm hr1 hB hz1 hk1 hS => ?_)
  obtain ⟨ad2, ct8, hP1, hD1, hst, h80⟩ := hB
  rw [ht] at hP1
  have hP2 := st34P hst hP1
  have hD2 := st34D (g := g) (ct2 := cNew g) hD1
  obtain ⟨hPn, hDn⟩ := z_two hPs hDs hk1 hFc hP2 hD2
  clear hP hD hPs hDs hPc hDc hP1 hD1 hP2 hD2 hst hFc
  have hP : zP g (dW pAll ad1 (cNew g) ++ dW pAll ad2 (cNew g)) H1 := zP_perm List.perm_append_comm hPn
  have hD : va_D A (dW pAll ad1 (cNew g) ++ dW pAll ad2 (cNew g)) := zD_perm List.perm_append_comm hDn
  have hP : zP g ([] ++ (dW pAll ad1 (cNew g) ++ dW pAll ad2 (cNew g))) H1 := hP
  have hD : va_D A ([] ++ (dW pAll ad1 (cNew g) ++ dW pAll ad2 (cNew g))) := hD
  clear hPn hDn
  generalize H1 = H at hP hS ⊢
  refine W.widen (k := 354) (n := 8026) (Nat.le_of_ble_eq_true rfl) (Nat.le_of_ble_eq_true rfl) ?_
  subst h80
  refine lv_astore_n (lv' := [(2, .ref (ad2 0)), (1, .ref (ad1 0)), (0, .ref b)]) hx hb dL_law_15 rfl hl (by decide) rfl (fun ls hl => ?_)
  refine lv_bipush (v := 76) hx hb dL_law_16 (by decide) ?_
  refine z_newI hx hb (hg _ mm_87) hK hP hD hS hA (n := 76) (N' := 76) (by decide) (by decide) (Nat.le_of_ble_eq_true rfl) (Nat.le_of_ble_eq_true rfl) (Nat.le_of_ble_eq_true rfl) dL_law_18 (fun q1 H hP hD hS => ?_)
  have hP := zP_perm pm_3 hP
  have hD := zD_perm pm_3 hD
  have hP : zP g ([(q1, .inl (g.2 0, 76, .inl (fun _ => 0)))] ++ (dW pAll ad1 (cNew g) ++ dW pAll ad2 (cNew g))) H := hP
  have hD : va_D A ([(q1, .inl (g.2 0, 76, .inl (fun _ => 0)))] ++ (dW pAll ad1 (cNew g) ++ dW pAll ad2 (cNew g))) := hD
  refine W.widen (k := 355) (n := 8102) (Nat.le_of_ble_eq_true rfl) (Nat.le_of_ble_eq_true rfl) ?_
  refine lv_dup hx hb dL_law_20 rfl ?_
  refine lv_iconst (v := 0) hx hb dL_law_21 (by decide) ?_
  refine lv_iconst (v := 0) hx hb dL_law_22 (by decide) ?_
  refine va_iast hx hb hK hP hD hS 0 0 rfl rfl (z_in (by decide : (0 : Int32).toInt = 0) (by omega) (by omega)) dL_law_23 (fun H locs hP hD hS => ?_)
  rw [show (0 : Int32).toNatClampNeg = 0 from (by decide)] at hP hD
  have hP : zP g ([(q1, .inl (g.2 0, 76, .inl (upd (fun _ => 0) 0 0)))] ++ (dW pAll ad1 (cNew g) ++ dW pAll ad2 (cNew g))) H := hP
  have hD : va_D A ([(q1, .inl (g.2 0, 76, .inl (upd (fun _ => 0) 0 0)))] ++ (dW pAll ad1 (cNew g) ++ dW pAll ad2 (cNew g))) := hD
  obtain ⟨rw2, hrw2⟩ : ∃ f : Nat → Int32, f = upd (fun _ => 0) 0 0 := ⟨_, rfl⟩
  rw [← hrw2] at hP hD
  clear hrw2
  have hP : zP g ([(q1, .inl (g.2 0, 76, .inl rw2))] ++ (dW pAll ad1 (cNew g) ++ dW pAll ad2 (cNew g))) H := hP
  have hD : va_D A ([(q1, .inl (g.2 0, 76, .inl rw2))] ++ (dW pAll ad1 (cNew g) ++ dW pAll ad2 (cNew g))) := hD
  refine lv_dup hx hb dL_law_24 rfl ?_
  refine lv_iconst (v := 1) hx hb dL_law_25 (by decide) ?_
  refine lv_iconst (v := 0) hx hb dL_law_26 (by decide) ?_
  refine va_iast hx hb hK hP hD hS 0 0 rfl rfl (z_in (by decide : (1 : Int32).toInt = 1) (by omega) (by omega)) dL_law_27 (fun H locs hP hD hS => ?_)
  rw [show (1 : Int32).toNatClampNeg = 1 from (by decide)] at hP hD
  have hP : zP g ([(q1, .inl (g.2 0, 76, .inl (upd rw2 1 0)))] ++ (dW pAll ad1 (cNew g) ++ dW pAll ad2 (cNew g))) H := hP
  have hD : va_D A ([(q1, .inl (g.2 0, 76, .inl (upd rw2 1 0)))] ++ (dW pAll ad1 (cNew g) ++ dW pAll ad2 (cNew g))) := hD
  obtain ⟨rw3, hrw3⟩ : ∃ f : Nat → Int32, f = upd rw2 1 0 := ⟨_, rfl⟩
  rw [← hrw3] at hP hD
  clear hrw3
  have hP : zP g ([(q1, .inl (g.2 0, 76, .inl rw3))] ++ (dW pAll ad1 (cNew g) ++ dW pAll ad2 (cNew g))) H := hP
  have hD : va_D A ([(q1, .inl (g.2 0, 76, .inl rw3))] ++ (dW pAll ad1 (cNew g) ++ dW pAll ad2 (cNew g))) := hD
  refine lv_dup hx hb dL_law_28 rfl ?_
  refine lv_iconst (v := 2) hx hb dL_law_29 (by decide) ?_
  refine lv_iconst (v := 0) hx hb dL_law_30 (by decide) ?_
  refine va_iast hx hb hK hP hD hS 0 0 rfl rfl (z_in (by decide : (2 : Int32).toInt = 2) (by omega) (by omega)) dL_law_31 (fun H locs hP hD hS => ?_)
  rw [show (2 : Int32).toNatClampNeg = 2 from (by decide)] at hP hD
  have hP : zP g ([(q1, .inl (g.2 0, 76, .inl (upd rw3 2 0)))] ++ (dW pAll ad1 (cNew g) ++ dW pAll ad2 (cNew g))) H := hP
  have hD : va_D A ([(q1, .inl (g.2 0, 76, .inl (upd rw3 2 0)))] ++ (dW pAll ad1 (cNew g) ++ dW pAll ad2 (cNew g))) := hD
  obtain ⟨rw4, hrw4⟩ : ∃ f : Nat → Int32, f = upd rw3 2 0 := ⟨_, rfl⟩
  rw [← hrw4] at hP hD
  clear hrw4
  have hP : zP g ([(q1, .inl (g.2 0, 76, .inl rw4))] ++ (dW pAll ad1 (cNew g) ++ dW pAll ad2 (cNew g))) H := hP
  have hD : va_D A ([(q1, .inl (g.2 0, 76, .inl rw4))] ++ (dW pAll ad1 (cNew g) ++ dW pAll ad2 (cNew g))) := hD
  refine lv_dup hx hb dL_law_32 rfl ?_
  refine lv_iconst (v := 3) hx hb dL_law_33 (by decide) ?_
  refine lv_iconst (v := 0) hx hb dL_law_34 (by decide) ?_
  refine va_iast hx hb hK hP hD hS 0 0 rfl rfl (z_in (by decide : (3 : Int32).toInt = 3) (by omega) (by omega)) dL_law_35 (fun H locs hP hD hS => ?_)
  rw [show (3 : Int32).toNatClampNeg = 3 from (by decide)] at hP hD
  have hP : zP g ([(q1, .inl (g.2 0, 76, .inl (upd rw4 3 0)))] ++ (dW pAll ad1 (cNew g) ++ dW pAll ad2 (cNew g))) H := hP
  have hD : va_D A ([(q1, .inl (g.2 0, 76, .inl (upd rw4 3 0)))] ++ (dW pAll ad1 (cNew g) ++ dW pAll ad2 (cNew g))) := hD
  obtain ⟨rw5, hrw5⟩ : ∃ f : Nat → Int32, f = upd rw4 3 0 := ⟨_, rfl⟩
  rw [← hrw5] at hP hD
  clear hrw5
  have hP : zP g ([(q1, .inl (g.2 0, 76, .inl rw5))] ++ (dW pAll ad1 (cNew g) ++ dW pAll ad2 (cNew g))) H := hP
  have hD : va_D A ([(q1, .inl (g.2 0, 76, .inl rw5))] ++ (dW pAll ad1 (cNew g) ++ dW pAll ad2 (cNew g))) := hD
  refine lv_dup hx hb dL_law_36 rfl ?_
  refine lv_iconst (v := 4) hx hb dL_law_37 (by decide) ?_
  refine lv_iconst (v := 0) hx hb dL_law_38 (by decide) ?_
  refine va_iast hx hb hK hP hD hS 0 0 rfl rfl (z_in (by decide : (4 : Int32).toInt = 4) (by omega) (by omega)) dL_law_39 (fun H locs hP hD hS => ?_)
  rw [show (4 : Int32).toNatClampNeg = 4 from (by decide)] at hP hD
  have hP : zP g ([(q1, .inl (g.2 0, 76, .inl (upd rw5 4 0)))] ++ (dW pAll ad1 (cNew g) ++ dW pAll ad2 (cNew g))) H := hP
  have hD : va_D A ([(q1, .inl (g.2 0, 76, .inl (upd rw5 4 0)))] ++ (dW pAll ad1 (cNew g) ++ dW pAll ad2 (cNew g))) := hD
  obtain ⟨rw6, hrw6⟩ : ∃ f : Nat → Int32, f = upd rw5 4 0 := ⟨_, rfl⟩
  rw [← hrw6] at hP hD
  clear hrw6
  have hP : zP g ([(q1, .inl (g.2 0, 76, .inl rw6))] ++ (dW pAll ad1 (cNew g) ++ dW pAll ad2 (cNew g))) H := hP
  have hD : va_D A ([(q1, .inl (g.2 0, 76, .inl rw6))] ++ (dW pAll ad1 (cNew g) ++ dW pAll ad2 (cNew g))) := hD
  refine lv_dup hx hb dL_law_40 rfl ?_
  refine lv_iconst (v := 5) hx hb dL_law_41 (by decide) ?_
  refine lv_iconst (v := 0) hx hb dL_law_42 (by decide) ?_
  refine va_iast hx hb hK hP hD hS 0 0 rfl rfl (z_in (by decide : (5 : Int32).toInt = 5) (by omega) (by omega)) dL_law_43 (fun H locs hP hD hS => ?_)
  rw [show (5 : Int32).toNatClampNeg = 5 from (by decide)] at hP hD
  have hP : zP g ([(q1, .inl (g.2 0, 76, .inl (upd rw6 5 0)))] ++ (dW pAll ad1 (cNew g) ++ dW pAll ad2 (cNew g))) H := hP
  have hD : va_D A ([(q1, .inl (g.2 0, 76, .inl (upd rw6 5 0)))] ++ (dW pAll ad1 (cNew g) ++ dW pAll ad2 (cNew g))) := hD
  obtain ⟨rw7, hrw7⟩ : ∃ f : Nat → Int32, f = upd rw6 5 0 := ⟨_, rfl⟩
  rw [← hrw7] at hP hD
  clear hrw7
  have hP : zP g ([(q1, .inl (g.2 0, 76, .inl rw7))] ++ (dW pAll ad1 (cNew g) ++ dW pAll ad2 (cNew g))) H := hP
  have hD : va_D A ([(q1, .inl (g.2 0, 76, .inl rw7))] ++ (dW pAll ad1 (cNew g) ++ dW pAll ad2 (cNew g))) := hD
  refine lv_dup hx hb dL_law_44 rfl ?_
  refine lv_bipush (v := 6) hx hb dL_law_45 (by decide) ?_
  refine lv_iconst (v := 0) hx hb dL_law_47 (by decide) ?_
  refine va_iast hx hb hK hP hD hS 0 0 rfl rfl (z_in (by decide : (6 : Int32).toInt = 6) (by omega) (by omega)) dL_law_48 (fun H locs hP hD hS => ?_)
  rw [show (6 : Int32).toNatClampNeg = 6 from (by decide)] at hP hD
  have hP : zP g ([(q1, .inl (g.2 0, 76, .inl (upd rw7 6 0)))] ++ (dW pAll ad1 (cNew g) ++ dW pAll ad2 (cNew g))) H := hP
  have hD : va_D A ([(q1, .inl (g.2 0, 76, .inl (upd rw7 6 0)))] ++ (dW pAll ad1 (cNew g) ++ dW pAll ad2 (cNew g))) := hD
  obtain ⟨rw8, hrw8⟩ : ∃ f : Nat → Int32, f = upd rw7 6 0 := ⟨_, rfl⟩
  rw [← hrw8] at hP hD
  clear hrw8
  have hP : zP g ([(q1, .inl (g.2 0, 76, .inl rw8))] ++ (dW pAll ad1 (cNew g) ++ dW pAll ad2 (cNew g))) H := hP
  have hD : va_D A ([(q1, .inl (g.2 0, 76, .inl rw8))] ++ (dW pAll ad1 (cNew g) ++ dW pAll ad2 (cNew g))) := hD
  refine lv_dup hx hb dL_law_49 rfl ?_
  refine lv_bipush (v := 7) hx hb dL_law_50 (by decide) ?_
  refine lv_iconst (v := 0) hx hb dL_law_52 (by decide) ?_
  refine va_iast hx hb hK hP hD hS 0 0 rfl rfl (z_in (by decide : (7 : Int32).toInt = 7) (by omega) (by omega)) dL_law_53 (fun H locs hP hD hS => ?_)
  rw [show (7 : Int32).toNatClampNeg = 7 from (by decide)] at hP hD
  have hP : zP g ([(q1, .inl (g.2 0, 76, .inl (upd rw8 7 0)))] ++ (dW pAll ad1 (cNew g) ++ dW pAll ad2 (cNew g))) H := hP
  have hD : va_D A ([(q1, .inl (g.2 0, 76, .inl (upd rw8 7 0)))] ++ (dW pAll ad1 (cNew g) ++ dW pAll ad2 (cNew g))) := hD
  obtain ⟨rw9, hrw9⟩ : ∃ f : Nat → Int32, f = upd rw8 7 0 := ⟨_, rfl⟩
  rw [← hrw9] at hP hD
  clear hrw9
  have hP : zP g ([(q1, .inl (g.2 0, 76, .inl rw9))] ++ (dW pAll ad1 (cNew g) ++ dW pAll ad2 (cNew g))) H := hP
  have hD : va_D A ([(q1, .inl (g.2 0, 76, .inl rw9))] ++ (dW pAll ad1 (cNew g) ++ dW pAll ad2 (cNew g))) := hD
  refine lv_dup hx hb dL_law_54 rfl ?_
  refine lv_bipush (v := 8) hx hb dL_law_55 (by decide) ?_
  refine lv_iconst (v := 0) hx hb dL_law_57 (by decide) ?_
  refine va_iast hx hb hK hP hD hS 0 0 rfl rfl (z_in (by decide : (8 : Int32).toInt = 8) (by omega) (by omega)) dL_law_58 (fun H locs hP hD hS => ?_)
  rw [show (8 : Int32).toNatClampNeg = 8 from (by decide)] at hP hD
  have hP : zP g ([(q1, .inl (g.2 0, 76, .inl (upd rw9 8 0)))] ++ (dW pAll ad1 (cNew g) ++ dW pAll ad2 (cNew g))) H := hP
  have hD : va_D A ([(q1, .inl (g.2 0, 76, .inl (upd rw9 8 0)))] ++ (dW pAll ad1 (cNew g) ++ dW pAll ad2 (cNew g))) := hD
  obtain ⟨rw10, hrw10⟩ : ∃ f : Nat → Int32, f = upd rw9 8 0 := ⟨_, rfl⟩
  rw [← hrw10] at hP hD
  clear hrw10
  have hP : zP g ([(q1, .inl (g.2 0, 76, .inl rw10))] ++ (dW pAll ad1 (cNew g) ++ dW pAll ad2 (cNew g))) H := hP
  have hD : va_D A ([(q1, .inl (g.2 0, 76, .inl rw10))] ++ (dW pAll ad1 (cNew g) ++ dW pAll ad2 (cNew g))) := hD
  refine lv_dup hx hb dL_law_59 rfl ?_
  refine lv_bipush (v := 9) hx hb dL_law_60 (by decide) ?_
  refine lv_iconst (v := 0) hx hb dL_law_62 (by decide) ?_
  refine va_iast hx hb hK hP hD hS 0 0 rfl rfl (z_in (by decide : (9 : Int32).toInt = 9) (by omega) (by omega)) dL_law_63 (fun H locs hP hD hS => ?_)
  rw [show (9 : Int32).toNatClampNeg = 9 from (by decide)] at hP hD
  have hP : zP g ([(q1, .inl (g.2 0, 76, .inl (upd rw10 9 0)))] ++ (dW pAll ad1 (cNew g) ++ dW pAll ad2 (cNew g))) H := hP
  have hD : va_D A ([(q1, .inl (g.2 0, 76, .inl (upd rw10 9 0)))] ++ (dW pAll ad1 (cNew g) ++ dW pAll ad2 (cNew g))) := hD
  obtain ⟨rw11, hrw11⟩ : ∃ f : Nat → Int32, f = upd rw10 9 0 := ⟨_, rfl⟩
  rw [← hrw11] at hP hD
  clear hrw11
  have hP : zP g ([(q1, .inl (g.2 0, 76, .inl rw11))] ++ (dW pAll ad1 (cNew g) ++ dW pAll ad2 (cNew g))) H := hP
  have hD : va_D A ([(q1, .inl (g.2 0, 76, .inl rw11))] ++ (dW pAll ad1 (cNew g) ++ dW pAll ad2 (cNew g))) := hD
  refine lv_dup hx hb dL_law_64 rfl ?_
  refine lv_bipush (v := 10) hx hb dL_law_65 (by decide) ?_
  refine lv_iconst (v := 0) hx hb dL_law_67 (by decide) ?_
  refine va_iast hx hb hK hP hD hS 0 0 rfl rfl (z_in (by decide : (10 : Int32).toInt = 10) (by omega) (by omega)) dL_law_68 (fun H locs hP hD hS => ?_)
  rw [show (10 : Int32).toNatClampNeg = 10 from (by decide)] at hP hD
  have hP : zP g ([(q1, .inl (g.2 0, 76, .inl (upd rw11 10 0)))] ++ (dW pAll ad1 (cNew g) ++ dW pAll ad2 (cNew g))) H := hP
  have hD : va_D A ([(q1, .inl (g.2 0, 76, .inl (upd rw11 10 0)))] ++ (dW pAll ad1 (cNew g) ++ dW pAll ad2 (cNew g))) := hD
  obtain ⟨rw12, hrw12⟩ : ∃ f : Nat → Int32, f = upd rw11 10 0 := ⟨_, rfl⟩
  rw [← hrw12] at hP hD
  clear hrw12
  have hP : zP g ([(q1, .inl (g.2 0, 76, .inl rw12))] ++ (dW pAll ad1 (cNew g) ++ dW pAll ad2 (cNew g))) H := hP
  have hD : va_D A ([(q1, .inl (g.2 0, 76, .inl rw12))] ++ (dW pAll ad1 (cNew g) ++ dW pAll ad2 (cNew g))) := hD
  refine lv_dup hx hb dL_law_69 rfl ?_
  refine lv_bipush (v := 11) hx hb dL_law_70 (by decide) ?_
  refine lv_iconst (v := 0) hx hb dL_law_72 (by decide) ?_
  refine va_iast hx hb hK hP hD hS 0 0 rfl rfl (z_in (by decide : (11 : Int32).toInt = 11) (by omega) (by omega)) dL_law_73 (fun H locs hP hD hS => ?_)
  rw [show (11 : Int32).toNatClampNeg = 11 from (by decide)] at hP hD
  have hP : zP g ([(q1, .inl (g.2 0, 76, .inl (upd rw12 11 0)))] ++ (dW pAll ad1 (cNew g) ++ dW pAll ad2 (cNew g))) H := hP
  have hD : va_D A ([(q1, .inl (g.2 0, 76, .inl (upd rw12 11 0)))] ++ (dW pAll ad1 (cNew g) ++ dW pAll ad2 (cNew g))) := hD
  obtain ⟨rw13, hrw13⟩ : ∃ f : Nat → Int32, f = upd rw12 11 0 := ⟨_, rfl⟩
  rw [← hrw13] at hP hD
  clear hrw13
  have hP : zP g ([(q1, .inl (g.2 0, 76, .inl rw13))] ++ (dW pAll ad1 (cNew g) ++ dW pAll ad2 (cNew g))) H := hP
  have hD : va_D A ([(q1, .inl (g.2 0, 76, .inl rw13))] ++ (dW pAll ad1 (cNew g) ++ dW pAll ad2 (cNew g))) := hD
  refine lv_dup hx hb dL_law_74 rfl ?_
  refine lv_bipush (v := 12) hx hb dL_law_75 (by decide) ?_
  refine lv_iconst (v := 0) hx hb dL_law_77 (by decide) ?_
  refine va_iast hx hb hK hP hD hS 0 0 rfl rfl (z_in (by decide : (12 : Int32).toInt = 12) (by omega) (by omega)) dL_law_78 (fun H locs hP hD hS => ?_)
  rw [show (12 : Int32).toNatClampNeg = 12 from (by decide)] at hP hD
  have hP : zP g ([(q1, .inl (g.2 0, 76, .inl (upd rw13 12 0)))] ++ (dW pAll ad1 (cNew g) ++ dW pAll ad2 (cNew g))) H := hP
  have hD : va_D A ([(q1, .inl (g.2 0, 76, .inl (upd rw13 12 0)))] ++ (dW pAll ad1 (cNew g) ++ dW pAll ad2 (cNew g))) := hD
  obtain ⟨rw14, hrw14⟩ : ∃ f : Nat → Int32, f = upd rw13 12 0 := ⟨_, rfl⟩
  rw [← hrw14] at hP hD
  clear hrw14
  have hP : zP g ([(q1, .inl (g.2 0, 76, .inl rw14))] ++ (dW pAll ad1 (cNew g) ++ dW pAll ad2 (cNew g))) H := hP
  have hD : va_D A ([(q1, .inl (g.2 0, 76, .inl rw14))] ++ (dW pAll ad1 (cNew g) ++ dW pAll ad2 (cNew g))) := hD
  refine lv_dup hx hb dL_law_79 rfl ?_
  refine lv_bipush (v := 13) hx hb dL_law_80 (by decide) ?_
  refine lv_iconst (v := 0) hx hb dL_law_82 (by decide) ?_
  refine va_iast hx hb hK hP hD hS 0 0 rfl rfl (z_in (by decide : (13 : Int32).toInt = 13) (by omega) (by omega)) dL_law_83 (fun H locs hP hD hS => ?_)
  rw [show (13 : Int32).toNatClampNeg = 13 from (by decide)] at hP hD
  have hP : zP g ([(q1, .inl (g.2 0, 76, .inl (upd rw14 13 0)))] ++ (dW pAll ad1 (cNew g) ++ dW pAll ad2 (cNew g))) H := hP
  have hD : va_D A ([(q1, .inl (g.2 0, 76, .inl (upd rw14 13 0)))] ++ (dW pAll ad1 (cNew g) ++ dW pAll ad2 (cNew g))) := hD
  obtain ⟨rw15, hrw15⟩ : ∃ f : Nat → Int32, f = upd rw14 13 0 := ⟨_, rfl⟩
  rw [← hrw15] at hP hD
  clear hrw15
  have hP : zP g ([(q1, .inl (g.2 0, 76, .inl rw15))] ++ (dW pAll ad1 (cNew g) ++ dW pAll ad2 (cNew g))) H := hP
  have hD : va_D A ([(q1, .inl (g.2 0, 76, .inl rw15))] ++ (dW pAll ad1 (cNew g) ++ dW pAll ad2 (cNew g))) := hD
  refine lv_dup hx hb dL_law_84 rfl ?_
  refine lv_bipush (v := 14) hx hb dL_law_85 (by decide) ?_
  refine lv_iconst (v := 0) hx hb dL_law_87 (by decide) ?_
  refine va_iast hx hb hK hP hD hS 0 0 rfl rfl (z_in (by decide : (14 : Int32).toInt = 14) (by omega) (by omega)) dL_law_88 (fun H locs hP hD hS => ?_)
  rw [show (14 : Int32).toNatClampNeg = 14 from (by decide)] at hP hD
  have hP : zP g ([(q1, .inl (g.2 0, 76, .inl (upd rw15 14 0)))] ++ (dW pAll ad1 (cNew g) ++ dW pAll ad2 (cNew g))) H := hP
  have hD : va_D A ([(q1, .inl (g.2 0, 76, .inl (upd rw15 14 0)))] ++ (dW pAll ad1 (cNew g) ++ dW pAll ad2 (cNew g))) := hD
  obtain ⟨rw16, hrw16⟩ : ∃ f : Nat → Int32, f = upd rw15 14 0 := ⟨_, rfl⟩
  rw [← hrw16] at hP hD
  clear hrw16
  have hP : zP g ([(q1, .inl (g.2 0, 76, .inl rw16))] ++ (dW pAll ad1 (cNew g) ++ dW pAll ad2 (cNew g))) H := hP
  have hD : va_D A ([(q1, .inl (g.2 0, 76, .inl rw16))] ++ (dW pAll ad1 (cNew g) ++ dW pAll ad2 (cNew g))) := hD
  refine lv_dup hx hb dL_law_89 rfl ?_
  refine lv_bipush (v := 15) hx hb dL_law_90 (by decide) ?_
  refine lv_iconst (v := 0) hx hb dL_law_92 (by decide) ?_
  refine va_iast hx hb hK hP hD hS 0 0 rfl rfl (z_in (by decide : (15 : Int32).toInt = 15) (by omega) (by omega)) dL_law_93 (fun H locs hP hD hS => ?_)
  rw [show (15 : Int32).toNatClampNeg = 15 from (by decide)] at hP hD
  have hP : zP g ([(q1, .inl (g.2 0, 76, .inl (upd rw16 15 0)))] ++ (dW pAll ad1 (cNew g) ++ dW pAll ad2 (cNew g))) H := hP
  have hD : va_D A ([(q1, .inl (g.2 0, 76, .inl (upd rw16 15 0)))] ++ (dW pAll ad1 (cNew g) ++ dW pAll ad2 (cNew g))) := hD
  obtain ⟨rw17, hrw17⟩ : ∃ f : Nat → Int32, f = upd rw16 15 0 := ⟨_, rfl⟩
  rw [← hrw17] at hP hD
  clear hrw17
  have hP : zP g ([(q1, .inl (g.2 0, 76, .inl rw17))] ++ (dW pAll ad1 (cNew g) ++ dW pAll ad2 (cNew g))) H := hP
  have hD : va_D A ([(q1, .inl (g.2 0, 76, .inl rw17))] ++ (dW pAll ad1 (cNew g) ++ dW pAll ad2 (cNew g))) := hD
  refine lv_dup hx hb dL_law_94 rfl ?_
  refine lv_bipush (v := 16) hx hb dL_law_95 (by decide) ?_
  refine lv_iconst (v := 0) hx hb dL_law_97 (by decide) ?_
  refine va_iast hx hb hK hP hD hS 0 0 rfl rfl (z_in (by decide : (16 : Int32).toInt = 16) (by omega) (by omega)) dL_law_98 (fun H locs hP hD hS => ?_)
  rw [show (16 : Int32).toNatClampNeg = 16 from (by decide)] at hP hD
  have hP : zP g ([(q1, .inl (g.2 0, 76, .inl (upd rw17 16 0)))] ++ (dW pAll ad1 (cNew g) ++ dW pAll ad2 (cNew g))) H := hP
  have hD : va_D A ([(q1, .inl (g.2 0, 76, .inl (upd rw17 16 0)))] ++ (dW pAll ad1 (cNew g) ++ dW pAll ad2 (cNew g))) := hD
  obtain ⟨rw18, hrw18⟩ : ∃ f : Nat → Int32, f = upd rw17 16 0 := ⟨_, rfl⟩
  rw [← hrw18] at hP hD
  clear hrw18
  have hP : zP g ([(q1, .inl (g.2 0, 76, .inl rw18))] ++ (dW pAll ad1 (cNew g) ++ dW pAll ad2 (cNew g))) H := hP
  have hD : va_D A ([(q1, .inl (g.2 0, 76, .inl rw18))] ++ (dW pAll ad1 (cNew g) ++ dW pAll ad2 (cNew g))) := hD
  refine lv_dup hx hb dL_law_99 rfl ?_
  refine lv_bipush (v := 17) hx hb dL_law_100 (by decide) ?_
  refine lv_iconst (v := 0) hx hb dL_law_102 (by decide) ?_
  refine va_iast hx hb hK hP hD hS 0 0 rfl rfl (z_in (by decide : (17 : Int32).toInt = 17) (by omega) (by omega)) dL_law_103 (fun H locs hP hD hS => ?_)
  rw [show (17 : Int32).toNatClampNeg = 17 from (by decide)] at hP hD
  have hP : zP g ([(q1, .inl (g.2 0, 76, .inl (upd rw18 17 0)))] ++ (dW pAll ad1 (cNew g) ++ dW pAll ad2 (cNew g))) H := hP
  have hD : va_D A ([(q1, .inl (g.2 0, 76, .inl (upd rw18 17 0)))] ++ (dW pAll ad1 (cNew g) ++ dW pAll ad2 (cNew g))) := hD
  obtain ⟨rw19, hrw19⟩ : ∃ f : Nat → Int32, f = upd rw18 17 0 := ⟨_, rfl⟩
  rw [← hrw19] at hP hD
  clear hrw19
  have hP : zP g ([(q1, .inl (g.2 0, 76, .inl rw19))] ++ (dW pAll ad1 (cNew g) ++ dW pAll ad2 (cNew g))) H := hP
  have hD : va_D A ([(q1, .inl (g.2 0, 76, .inl rw19))] ++ (dW pAll ad1 (cNew g) ++ dW pAll ad2 (cNew g))) := hD
  refine lv_dup hx hb dL_law_104 rfl ?_
  refine lv_bipush (v := 18) hx hb dL_law_105 (by decide) ?_
  refine lv_iconst (v := 0) hx hb dL_law_107 (by decide) ?_
  refine va_iast hx hb hK hP hD hS 0 0 rfl rfl (z_in (by decide : (18 : Int32).toInt = 18) (by omega) (by omega)) dL_law_108 (fun H locs hP hD hS => ?_)
  rw [show (18 : Int32).toNatClampNeg = 18 from (by decide)] at hP hD
  have hP : zP g ([(q1, .inl (g.2 0, 76, .inl (upd rw19 18 0)))] ++ (dW pAll ad1 (cNew g) ++ dW pAll ad2 (cNew g))) H := hP
  have hD : va_D A ([(q1, .inl (g.2 0, 76, .inl (upd rw19 18 0)))] ++ (dW pAll ad1 (cNew g) ++ dW pAll ad2 (cNew g))) := hD
  obtain ⟨rw20, hrw20⟩ : ∃ f : Nat → Int32, f = upd rw19 18 0 := ⟨_, rfl⟩
  rw [← hrw20] at hP hD
  clear hrw20
  have hP : zP g ([(q1, .inl (g.2 0, 76, .inl rw20))] ++ (dW pAll ad1 (cNew g) ++ dW pAll ad2 (cNew g))) H := hP
  have hD : va_D A ([(q1, .inl (g.2 0, 76, .inl rw20))] ++ (dW pAll ad1 (cNew g) ++ dW pAll ad2 (cNew g))) := hD
  refine lv_dup hx hb dL_law_109 rfl ?_
  refine lv_bipush (v := 19) hx hb dL_law_110 (by decide) ?_
  refine lv_iconst (v := 0) hx hb dL_law_112 (by decide) ?_
  refine va_iast hx hb hK hP hD hS 0 0 rfl rfl (z_in (by decide : (19 : Int32).toInt = 19) (by omega) (by omega)) dL_law_113 (fun H locs hP hD hS => ?_)
  rw [show (19 : Int32).toNatClampNeg = 19 from (by decide)] at hP hD
  have hP : zP g ([(q1, .inl (g.2 0, 76, .inl (upd rw20 19 0)))] ++ (dW pAll ad1 (cNew g) ++ dW pAll ad2 (cNew g))) H := hP
  have hD : va_D A ([(q1, .inl (g.2 0, 76, .inl (upd rw20 19 0)))] ++ (dW pAll ad1 (cNew g) ++ dW pAll ad2 (cNew g))) := hD
  obtain ⟨rw21, hrw21⟩ : ∃ f : Nat → Int32, f = upd rw20 19 0 := ⟨_, rfl⟩
  rw [← hrw21] at hP hD
  clear hrw21
  have hP : zP g ([(q1, .inl (g.2 0, 76, .inl rw21))] ++ (dW pAll ad1 (cNew g) ++ dW pAll ad2 (cNew g))) H := hP
  have hD : va_D A ([(q1, .inl (g.2 0, 76, .inl rw21))] ++ (dW pAll ad1 (cNew g) ++ dW pAll ad2 (cNew g))) := hD
  refine lv_dup hx hb dL_law_114 rfl ?_
  refine lv_bipush (v := 20) hx hb dL_law_115 (by decide) ?_
  refine lv_iconst (v := 0) hx hb dL_law_117 (by decide) ?_
  refine va_iast hx hb hK hP hD hS 0 0 rfl rfl (z_in (by decide : (20 : Int32).toInt = 20) (by omega) (by omega)) dL_law_118 (fun H locs hP hD hS => ?_)
  rw [show (20 : Int32).toNatClampNeg = 20 from (by decide)] at hP hD
  have hP : zP g ([(q1, .inl (g.2 0, 76, .inl (upd rw21 20 0)))] ++ (dW pAll ad1 (cNew g) ++ dW pAll ad2 (cNew g))) H := hP
  have hD : va_D A ([(q1, .inl (g.2 0, 76, .inl (upd rw21 20 0)))] ++ (dW pAll ad1 (cNew g) ++ dW pAll ad2 (cNew g))) := hD
  obtain ⟨rw22, hrw22⟩ : ∃ f : Nat → Int32, f = upd rw21 20 0 := ⟨_, rfl⟩
  rw [← hrw22] at hP hD
  clear hrw22
  have hP : zP g ([(q1, .inl (g.2 0, 76, .inl rw22))] ++ (dW pAll ad1 (cNew g) ++ dW pAll ad2 (cNew g))) H := hP
  have hD : va_D A ([(q1, .inl (g.2 0, 76, .inl rw22))] ++ (dW pAll ad1 (cNew g) ++ dW pAll ad2 (cNew g))) := hD
  refine lv_dup hx hb dL_law_119 rfl ?_
  refine lv_bipush (v := 21) hx hb dL_law_120 (by decide) ?_
  refine lv_iconst (v := 0) hx hb dL_law_122 (by decide) ?_
  refine va_iast hx hb hK hP hD hS 0 0 rfl rfl (z_in (by decide : (21 : Int32).toInt = 21) (by omega) (by omega)) dL_law_123 (fun H locs hP hD hS => ?_)
  rw [show (21 : Int32).toNatClampNeg = 21 from (by decide)] at hP hD
  have hP : zP g ([(q1, .inl (g.2 0, 76, .inl (upd rw22 21 0)))] ++ (dW pAll ad1 (cNew g) ++ dW pAll ad2 (cNew g))) H := hP
  have hD : va_D A ([(q1, .inl (g.2 0, 76, .inl (upd rw22 21 0)))] ++ (dW pAll ad1 (cNew g) ++ dW pAll ad2 (cNew g))) := hD
  obtain ⟨rw23, hrw23⟩ : ∃ f : Nat → Int32, f = upd rw22 21 0 := ⟨_, rfl⟩
  rw [← hrw23] at hP hD
  clear hrw23
  have hP : zP g ([(q1, .inl (g.2 0, 76, .inl rw23))] ++ (dW pAll ad1 (cNew g) ++ dW pAll ad2 (cNew g))) H := hP
  have hD : va_D A ([(q1, .inl (g.2 0, 76, .inl rw23))] ++ (dW pAll ad1 (cNew g) ++ dW pAll ad2 (cNew g))) := hD
  refine lv_dup hx hb dL_law_124 rfl ?_
  refine lv_bipush (v := 22) hx hb dL_law_125 (by decide) ?_
  refine lv_iconst (v := 0) hx hb dL_law_127 (by decide) ?_
  refine va_iast hx hb hK hP hD hS 0 0 rfl rfl (z_in (by decide : (22 : Int32).toInt = 22) (by omega) (by omega)) dL_law_128 (fun H locs hP hD hS => ?_)
  rw [show (22 : Int32).toNatClampNeg = 22 from (by decide)] at hP hD
  have hP : zP g ([(q1, .inl (g.2 0, 76, .inl (upd rw23 22 0)))] ++ (dW pAll ad1 (cNew g) ++ dW pAll ad2 (cNew g))) H := hP
  have hD : va_D A ([(q1, .inl (g.2 0, 76, .inl (upd rw23 22 0)))] ++ (dW pAll ad1 (cNew g) ++ dW pAll ad2 (cNew g))) := hD
  obtain ⟨rw24, hrw24⟩ : ∃ f : Nat → Int32, f = upd rw23 22 0 := ⟨_, rfl⟩
  rw [← hrw24] at hP hD
  clear hrw24
  have hP : zP g ([(q1, .inl (g.2 0, 76, .inl rw24))] ++ (dW pAll ad1 (cNew g) ++ dW pAll ad2 (cNew g))) H := hP
  have hD : va_D A ([(q1, .inl (g.2 0, 76, .inl rw24))] ++ (dW pAll ad1 (cNew g) ++ dW pAll ad2 (cNew g))) := hD
  refine lv_dup hx hb dL_law_129 rfl ?_
  refine lv_bipush (v := 23) hx hb dL_law_130 (by decide) ?_
  refine lv_iconst (v := 0) hx hb dL_law_132 (by decide) ?_
  refine va_iast hx hb hK hP hD hS 0 0 rfl rfl (z_in (by decide : (23 : Int32).toInt = 23) (by omega) (by omega)) dL_law_133 (fun H locs hP hD hS => ?_)
  rw [show (23 : Int32).toNatClampNeg = 23 from (by decide)] at hP hD
  have hP : zP g ([(q1, .inl (g.2 0, 76, .inl (upd rw24 23 0)))] ++ (dW pAll ad1 (cNew g) ++ dW pAll ad2 (cNew g))) H := hP
  have hD : va_D A ([(q1, .inl (g.2 0, 76, .inl (upd rw24 23 0)))] ++ (dW pAll ad1 (cNew g) ++ dW pAll ad2 (cNew g))) := hD
  obtain ⟨rw25, hrw25⟩ : ∃ f : Nat → Int32, f = upd rw24 23 0 := ⟨_, rfl⟩
  rw [← hrw25] at hP hD
  clear hrw25
  have hP : zP g ([(q1, .inl (g.2 0, 76, .inl rw25))] ++ (dW pAll ad1 (cNew g) ++ dW pAll ad2 (cNew g))) H := hP
  have hD : va_D A ([(q1, .inl (g.2 0, 76, .inl rw25))] ++ (dW pAll ad1 (cNew g) ++ dW pAll ad2 (cNew g))) := hD
  refine lv_dup hx hb dL_law_134 rfl ?_
  refine lv_bipush (v := 24) hx hb dL_law_135 (by decide) ?_
  refine lv_iconst (v := 0) hx hb dL_law_137 (by decide) ?_
  refine va_iast hx hb hK hP hD hS 0 0 rfl rfl (z_in (by decide : (24 : Int32).toInt = 24) (by omega) (by omega)) dL_law_138 (fun H locs hP hD hS => ?_)
  rw [show (24 : Int32).toNatClampNeg = 24 from (by decide)] at hP hD
  have hP : zP g ([(q1, .inl (g.2 0, 76, .inl (upd rw25 24 0)))] ++ (dW pAll ad1 (cNew g) ++ dW pAll ad2 (cNew g))) H := hP
  have hD : va_D A ([(q1, .inl (g.2 0, 76, .inl (upd rw25 24 0)))] ++ (dW pAll ad1 (cNew g) ++ dW pAll ad2 (cNew g))) := hD
  obtain ⟨rw26, hrw26⟩ : ∃ f : Nat → Int32, f = upd rw25 24 0 := ⟨_, rfl⟩
  rw [← hrw26] at hP hD
  clear hrw26
  have hP : zP g ([(q1, .inl (g.2 0, 76, .inl rw26))] ++ (dW pAll ad1 (cNew g) ++ dW pAll ad2 (cNew g))) H := hP
  have hD : va_D A ([(q1, .inl (g.2 0, 76, .inl rw26))] ++ (dW pAll ad1 (cNew g) ++ dW pAll ad2 (cNew g))) := hD
  refine lv_dup hx hb dL_law_139 rfl ?_
  refine lv_bipush (v := 25) hx hb dL_law_140 (by decide) ?_
  refine lv_iconst (v := 0) hx hb dL_law_142 (by decide) ?_
  refine va_iast hx hb hK hP hD hS 0 0 rfl rfl (z_in (by decide : (25 : Int32).toInt = 25) (by omega) (by omega)) dL_law_143 (fun H locs hP hD hS => ?_)
  rw [show (25 : Int32).toNatClampNeg = 25 from (by decide)] at hP hD
  have hP : zP g ([(q1, .inl (g.2 0, 76, .inl (upd rw26 25 0)))] ++ (dW pAll ad1 (cNew g) ++ dW pAll ad2 (cNew g))) H := hP
  have hD : va_D A ([(q1, .inl (g.2 0, 76, .inl (upd rw26 25 0)))] ++ (dW pAll ad1 (cNew g) ++ dW pAll ad2 (cNew g))) := hD
  obtain ⟨rw27, hrw27⟩ : ∃ f : Nat → Int32, f = upd rw26 25 0 := ⟨_, rfl⟩
  rw [← hrw27] at hP hD
  clear hrw27
  have hP : zP g ([(q1, .inl (g.2 0, 76, .inl rw27))] ++ (dW pAll ad1 (cNew g) ++ dW pAll ad2 (cNew g))) H := hP
  have hD : va_D A ([(q1, .inl (g.2 0, 76, .inl rw27))] ++ (dW pAll ad1 (cNew g) ++ dW pAll ad2 (cNew g))) := hD
  refine lv_dup hx hb dL_law_144 rfl ?_
  refine lv_bipush (v := 26) hx hb dL_law_145 (by decide) ?_
  refine lv_iconst (v := 0) hx hb dL_law_147 (by decide) ?_
  refine va_iast hx hb hK hP hD hS 0 0 rfl rfl (z_in (by decide : (26 : Int32).toInt = 26) (by omega) (by omega)) dL_law_148 (fun H locs hP hD hS => ?_)
  rw [show (26 : Int32).toNatClampNeg = 26 from (by decide)] at hP hD
  have hP : zP g ([(q1, .inl (g.2 0, 76, .inl (upd rw27 26 0)))] ++ (dW pAll ad1 (cNew g) ++ dW pAll ad2 (cNew g))) H := hP
  have hD : va_D A ([(q1, .inl (g.2 0, 76, .inl (upd rw27 26 0)))] ++ (dW pAll ad1 (cNew g) ++ dW pAll ad2 (cNew g))) := hD
  obtain ⟨rw28, hrw28⟩ : ∃ f : Nat → Int32, f = upd rw27 26 0 := ⟨_, rfl⟩
  rw [← hrw28] at hP hD
  clear hrw28
  have hP : zP g ([(q1, .inl (g.2 0, 76, .inl rw28))] ++ (dW pAll ad1 (cNew g) ++ dW pAll ad2 (cNew g))) H := hP
  have hD : va_D A ([(q1, .inl (g.2 0, 76, .inl rw28))] ++ (dW pAll ad1 (cNew g) ++ dW pAll ad2 (cNew g))) := hD
  refine lv_dup hx hb dL_law_149 rfl ?_
  refine lv_bipush (v := 27) hx hb dL_law_150 (by decide) ?_
  refine lv_iconst (v := 0) hx hb dL_law_152 (by decide) ?_
  refine va_iast hx hb hK hP hD hS 0 0 rfl rfl (z_in (by decide : (27 : Int32).toInt = 27) (by omega) (by omega)) dL_law_153 (fun H locs hP hD hS => ?_)
  rw [show (27 : Int32).toNatClampNeg = 27 from (by decide)] at hP hD
  have hP : zP g ([(q1, .inl (g.2 0, 76, .inl (upd rw28 27 0)))] ++ (dW pAll ad1 (cNew g) ++ dW pAll ad2 (cNew g))) H := hP
  have hD : va_D A ([(q1, .inl (g.2 0, 76, .inl (upd rw28 27 0)))] ++ (dW pAll ad1 (cNew g) ++ dW pAll ad2 (cNew g))) := hD
  obtain ⟨rw29, hrw29⟩ : ∃ f : Nat → Int32, f = upd rw28 27 0 := ⟨_, rfl⟩
  rw [← hrw29] at hP hD
  clear hrw29
  have hP : zP g ([(q1, .inl (g.2 0, 76, .inl rw29))] ++ (dW pAll ad1 (cNew g) ++ dW pAll ad2 (cNew g))) H := hP
  have hD : va_D A ([(q1, .inl (g.2 0, 76, .inl rw29))] ++ (dW pAll ad1 (cNew g) ++ dW pAll ad2 (cNew g))) := hD
  refine lv_dup hx hb dL_law_154 rfl ?_
  refine lv_bipush (v := 28) hx hb dL_law_155 (by decide) ?_
  refine lv_iconst (v := 0) hx hb dL_law_157 (by decide) ?_
  refine va_iast hx hb hK hP hD hS 0 0 rfl rfl (z_in (by decide : (28 : Int32).toInt = 28) (by omega) (by omega)) dL_law_158 (fun H locs hP hD hS => ?_)
  rw [show (28 : Int32).toNatClampNeg = 28 from (by decide)] at hP hD
  have hP : zP g ([(q1, .inl (g.2 0, 76, .inl (upd rw29 28 0)))] ++ (dW pAll ad1 (cNew g) ++ dW pAll ad2 (cNew g))) H := hP
  have hD : va_D A ([(q1, .inl (g.2 0, 76, .inl (upd rw29 28 0)))] ++ (dW pAll ad1 (cNew g) ++ dW pAll ad2 (cNew g))) := hD
  obtain ⟨rw30, hrw30⟩ : ∃ f : Nat → Int32, f = upd rw29 28 0 := ⟨_, rfl⟩
  rw [← hrw30] at hP hD
  clear hrw30
  have hP : zP g ([(q1, .inl (g.2 0, 76, .inl rw30))] ++ (dW pAll ad1 (cNew g) ++ dW pAll ad2 (cNew g))) H := hP
  have hD : va_D A ([(q1, .inl (g.2 0, 76, .inl rw30))] ++ (dW pAll ad1 (cNew g) ++ dW pAll ad2 (cNew g))) := hD
  refine lv_dup hx hb dL_law_159 rfl ?_
  refine lv_bipush (v := 29) hx hb dL_law_160 (by decide) ?_
  refine lv_iconst (v := 0) hx hb dL_law_162 (by decide) ?_
  refine va_iast hx hb hK hP hD hS 0 0 rfl rfl (z_in (by decide : (29 : Int32).toInt = 29) (by omega) (by omega)) dL_law_163 (fun H locs hP hD hS => ?_)
  rw [show (29 : Int32).toNatClampNeg = 29 from (by decide)] at hP hD
  have hP : zP g ([(q1, .inl (g.2 0, 76, .inl (upd rw30 29 0)))] ++ (dW pAll ad1 (cNew g) ++ dW pAll ad2 (cNew g))) H := hP
  have hD : va_D A ([(q1, .inl (g.2 0, 76, .inl (upd rw30 29 0)))] ++ (dW pAll ad1 (cNew g) ++ dW pAll ad2 (cNew g))) := hD
  obtain ⟨rw31, hrw31⟩ : ∃ f : Nat → Int32, f = upd rw30 29 0 := ⟨_, rfl⟩
  rw [← hrw31] at hP hD
  clear hrw31
  have hP : zP g ([(q1, .inl (g.2 0, 76, .inl rw31))] ++ (dW pAll ad1 (cNew g) ++ dW pAll ad2 (cNew g))) H := hP
  have hD : va_D A ([(q1, .inl (g.2 0, 76, .inl rw31))] ++ (dW pAll ad1 (cNew g) ++ dW pAll ad2 (cNew g))) := hD
  refine lv_dup hx hb dL_law_164 rfl ?_
  refine lv_bipush (v := 30) hx hb dL_law_165 (by decide) ?_
  refine lv_iconst (v := 0) hx hb dL_law_167 (by decide) ?_
  refine va_iast hx hb hK hP hD hS 0 0 rfl rfl (z_in (by decide : (30 : Int32).toInt = 30) (by omega) (by omega)) dL_law_168 (fun H locs hP hD hS => ?_)
  rw [show (30 : Int32).toNatClampNeg = 30 from (by decide)] at hP hD
  have hP : zP g ([(q1, .inl (g.2 0, 76, .inl (upd rw31 30 0)))] ++ (dW pAll ad1 (cNew g) ++ dW pAll ad2 (cNew g))) H := hP
  have hD : va_D A ([(q1, .inl (g.2 0, 76, .inl (upd rw31 30 0)))] ++ (dW pAll ad1 (cNew g) ++ dW pAll ad2 (cNew g))) := hD
  obtain ⟨rw32, hrw32⟩ : ∃ f : Nat → Int32, f = upd rw31 30 0 := ⟨_, rfl⟩
  rw [← hrw32] at hP hD
  clear hrw32
  have hP : zP g ([(q1, .inl (g.2 0, 76, .inl rw32))] ++ (dW pAll ad1 (cNew g) ++ dW pAll ad2 (cNew g))) H := hP
  have hD : va_D A ([(q1, .inl (g.2 0, 76, .inl rw32))] ++ (dW pAll ad1 (cNew g) ++ dW pAll ad2 (cNew g))) := hD
  refine lv_dup hx hb dL_law_169 rfl ?_
  refine lv_bipush (v := 31) hx hb dL_law_170 (by decide) ?_
  refine lv_iconst (v := 0) hx hb dL_law_172 (by decide) ?_
  refine va_iast hx hb hK hP hD hS 0 0 rfl rfl (z_in (by decide : (31 : Int32).toInt = 31) (by omega) (by omega)) dL_law_173 (fun H locs hP hD hS => ?_)
  rw [show (31 : Int32).toNatClampNeg = 31 from (by decide)] at hP hD
  have hP : zP g ([(q1, .inl (g.2 0, 76, .inl (upd rw32 31 0)))] ++ (dW pAll ad1 (cNew g) ++ dW pAll ad2 (cNew g))) H := hP
  have hD : va_D A ([(q1, .inl (g.2 0, 76, .inl (upd rw32 31 0)))] ++ (dW pAll ad1 (cNew g) ++ dW pAll ad2 (cNew g))) := hD
  obtain ⟨rw33, hrw33⟩ : ∃ f : Nat → Int32, f = upd rw32 31 0 := ⟨_, rfl⟩
  rw [← hrw33] at hP hD
  clear hrw33
  have hP : zP g ([(q1, .inl (g.2 0, 76, .inl rw33))] ++ (dW pAll ad1 (cNew g) ++ dW pAll ad2 (cNew g))) H := hP
  have hD : va_D A ([(q1, .inl (g.2 0, 76, .inl rw33))] ++ (dW pAll ad1 (cNew g) ++ dW pAll ad2 (cNew g))) := hD
  refine lv_dup hx hb dL_law_174 rfl ?_
  refine lv_bipush (v := 32) hx hb dL_law_175 (by decide) ?_
  refine lv_iconst (v := 0) hx hb dL_law_177 (by decide) ?_
  refine va_iast hx hb hK hP hD hS 0 0 rfl rfl (z_in (by decide : (32 : Int32).toInt = 32) (by omega) (by omega)) dL_law_178 (fun H locs hP hD hS => ?_)
  rw [show (32 : Int32).toNatClampNeg = 32 from (by decide)] at hP hD
  have hP : zP g ([(q1, .inl (g.2 0, 76, .inl (upd rw33 32 0)))] ++ (dW pAll ad1 (cNew g) ++ dW pAll ad2 (cNew g))) H := hP
  have hD : va_D A ([(q1, .inl (g.2 0, 76, .inl (upd rw33 32 0)))] ++ (dW pAll ad1 (cNew g) ++ dW pAll ad2 (cNew g))) := hD
  obtain ⟨rw34, hrw34⟩ : ∃ f : Nat → Int32, f = upd rw33 32 0 := ⟨_, rfl⟩
  rw [← hrw34] at hP hD
  clear hrw34
  have hP : zP g ([(q1, .inl (g.2 0, 76, .inl rw34))] ++ (dW pAll ad1 (cNew g) ++ dW pAll ad2 (cNew g))) H := hP
  have hD : va_D A ([(q1, .inl (g.2 0, 76, .inl rw34))] ++ (dW pAll ad1 (cNew g) ++ dW pAll ad2 (cNew g))) := hD
  refine lv_dup hx hb dL_law_179 rfl ?_
  refine lv_bipush (v := 33) hx hb dL_law_180 (by decide) ?_
  refine lv_iconst (v := 0) hx hb dL_law_182 (by decide) ?_
  refine va_iast hx hb hK hP hD hS 0 0 rfl rfl (z_in (by decide : (33 : Int32).toInt = 33) (by omega) (by omega)) dL_law_183 (fun H locs hP hD hS => ?_)
  rw [show (33 : Int32).toNatClampNeg = 33 from (by decide)] at hP hD
  have hP : zP g ([(q1, .inl (g.2 0, 76, .inl (upd rw34 33 0)))] ++ (dW pAll ad1 (cNew g) ++ dW pAll ad2 (cNew g))) H := hP
  have hD : va_D A ([(q1, .inl (g.2 0, 76, .inl (upd rw34 33 0)))] ++ (dW pAll ad1 (cNew g) ++ dW pAll ad2 (cNew g))) := hD
  obtain ⟨rw35, hrw35⟩ : ∃ f : Nat → Int32, f = upd rw34 33 0 := ⟨_, rfl⟩
  rw [← hrw35] at hP hD
  clear hrw35
  have hP : zP g ([(q1, .inl (g.2 0, 76, .inl rw35))] ++ (dW pAll ad1 (cNew g) ++ dW pAll ad2 (cNew g))) H := hP
  have hD : va_D A ([(q1, .inl (g.2 0, 76, .inl rw35))] ++ (dW pAll ad1 (cNew g) ++ dW pAll ad2 (cNew g))) := hD
  refine lv_dup hx hb dL_law_184 rfl ?_
  refine lv_bipush (v := 34) hx hb dL_law_185 (by decide) ?_
  refine lv_iconst (v := 0) hx hb dL_law_187 (by decide) ?_
  refine va_iast hx hb hK hP hD hS 0 0 rfl rfl (z_in (by decide : (34 : Int32).toInt = 34) (by omega) (by omega)) dL_law_188 (fun H locs hP hD hS => ?_)
  rw [show (34 : Int32).toNatClampNeg = 34 from (by decide)] at hP hD
  have hP : zP g ([(q1, .inl (g.2 0, 76, .inl (upd rw35 34 0)))] ++ (dW pAll ad1 (cNew g) ++ dW pAll ad2 (cNew g))) H := hP
  have hD : va_D A ([(q1, .inl (g.2 0, 76, .inl (upd rw35 34 0)))] ++ (dW pAll ad1 (cNew g) ++ dW pAll ad2 (cNew g))) := hD
  obtain ⟨rw36, hrw36⟩ : ∃ f : Nat → Int32, f = upd rw35 34 0 := ⟨_, rfl⟩
  rw [← hrw36] at hP hD
  clear hrw36
  have hP : zP g ([(q1, .inl (g.2 0, 76, .inl rw36))] ++ (dW pAll ad1 (cNew g) ++ dW pAll ad2 (cNew g))) H := hP
  have hD : va_D A ([(q1, .inl (g.2 0, 76, .inl rw36))] ++ (dW pAll ad1 (cNew g) ++ dW pAll ad2 (cNew g))) := hD
  refine lv_dup hx hb dL_law_189 rfl ?_
  refine lv_bipush (v := 35) hx hb dL_law_190 (by decide) ?_
  refine lv_iconst (v := 0) hx hb dL_law_192 (by decide) ?_
  refine va_iast hx hb hK hP hD hS 0 0 rfl rfl (z_in (by decide : (35 : Int32).toInt = 35) (by omega) (by omega)) dL_law_193 (fun H locs hP hD hS => ?_)
  rw [show (35 : Int32).toNatClampNeg = 35 from (by decide)] at hP hD
  have hP : zP g ([(q1, .inl (g.2 0, 76, .inl (upd rw36 35 0)))] ++ (dW pAll ad1 (cNew g) ++ dW pAll ad2 (cNew g))) H := hP
  have hD : va_D A ([(q1, .inl (g.2 0, 76, .inl (upd rw36 35 0)))] ++ (dW pAll ad1 (cNew g) ++ dW pAll ad2 (cNew g))) := hD
  obtain ⟨rw37, hrw37⟩ : ∃ f : Nat → Int32, f = upd rw36 35 0 := ⟨_, rfl⟩
  rw [← hrw37] at hP hD
  clear hrw37
  have hP : zP g ([(q1, .inl (g.2 0, 76, .inl rw37))] ++ (dW pAll ad1 (cNew g) ++ dW pAll ad2 (cNew g))) H := hP
  have hD : va_D A ([(q1, .inl (g.2 0, 76, .inl rw37))] ++ (dW pAll ad1 (cNew g) ++ dW pAll ad2 (cNew g))) := hD
  refine lv_dup hx hb dL_law_194 rfl ?_
  refine lv_bipush (v := 36) hx hb dL_law_195 (by decide) ?_
  refine lv_iconst (v := 0) hx hb dL_law_197 (by decide) ?_
  refine va_iast hx hb hK hP hD hS 0 0 rfl rfl (z_in (by decide : (36 : Int32).toInt = 36) (by omega) (by omega)) dL_law_198 (fun H locs hP hD hS => ?_)
  rw [show (36 : Int32).toNatClampNeg = 36 from (by decide)] at hP hD
  have hP : zP g ([(q1, .inl (g.2 0, 76, .inl (upd rw37 36 0)))] ++ (dW pAll ad1 (cNew g) ++ dW pAll ad2 (cNew g))) H := hP
  have hD : va_D A ([(q1, .inl (g.2 0, 76, .inl (upd rw37 36 0)))] ++ (dW pAll ad1 (cNew g) ++ dW pAll ad2 (cNew g))) := hD
  obtain ⟨rw38, hrw38⟩ : ∃ f : Nat → Int32, f = upd rw37 36 0 := ⟨_, rfl⟩
  rw [← hrw38] at hP hD
  clear hrw38
  have hP : zP g ([(q1, .inl (g.2 0, 76, .inl rw38))] ++ (dW pAll ad1 (cNew g) ++ dW pAll ad2 (cNew g))) H := hP
  have hD : va_D A ([(q1, .inl (g.2 0, 76, .inl rw38))] ++ (dW pAll ad1 (cNew g) ++ dW pAll ad2 (cNew g))) := hD
  refine lv_dup hx hb dL_law_199 rfl ?_
  refine lv_bipush (v := 37) hx hb dL_law_200 (by decide) ?_
  refine lv_iconst (v := 0) hx hb dL_law_202 (by decide) ?_
  refine va_iast hx hb hK hP hD hS 0 0 rfl rfl (z_in (by decide : (37 : Int32).toInt = 37) (by omega) (by omega)) dL_law_203 (fun H locs hP hD hS => ?_)
  rw [show (37 : Int32).toNatClampNeg = 37 from (by decide)] at hP hD
  have hP : zP g ([(q1, .inl (g.2 0, 76, .inl (upd rw38 37 0)))] ++ (dW pAll ad1 (cNew g) ++ dW pAll ad2 (cNew g))) H := hP
  have hD : va_D A ([(q1, .inl (g.2 0, 76, .inl (upd rw38 37 0)))] ++ (dW pAll ad1 (cNew g) ++ dW pAll ad2 (cNew g))) := hD
  obtain ⟨rw39, hrw39⟩ : ∃ f : Nat → Int32, f = upd rw38 37 0 := ⟨_, rfl⟩
  rw [← hrw39] at hP hD
  clear hrw39
  have hP : zP g ([(q1, .inl (g.2 0, 76, .inl rw39))] ++ (dW pAll ad1 (cNew g) ++ dW pAll ad2 (cNew g))) H := hP
  have hD : va_D A ([(q1, .inl (g.2 0, 76, .inl rw39))] ++ (dW pAll ad1 (cNew g) ++ dW pAll ad2 (cNew g))) := hD
  refine lv_dup hx hb dL_law_204 rfl ?_
  refine lv_bipush (v := 38) hx hb dL_law_205 (by decide) ?_
  refine lv_iconst (v := 0) hx hb dL_law_207 (by decide) ?_
  refine va_iast hx hb hK hP hD hS 0 0 rfl rfl (z_in (by decide : (38 : Int32).toInt = 38) (by omega) (by omega)) dL_law_208 (fun H locs hP hD hS => ?_)
  rw [show (38 : Int32).toNatClampNeg = 38 from (by decide)] at hP hD
  have hP : zP g ([(q1, .inl (g.2 0, 76, .inl (upd rw39 38 0)))] ++ (dW pAll ad1 (cNew g) ++ dW pAll ad2 (cNew g))) H := hP
  have hD : va_D A ([(q1, .inl (g.2 0, 76, .inl (upd rw39 38 0)))] ++ (dW pAll ad1 (cNew g) ++ dW pAll ad2 (cNew g))) := hD
  obtain ⟨rw40, hrw40⟩ : ∃ f : Nat → Int32, f = upd rw39 38 0 := ⟨_, rfl⟩
  rw [← hrw40] at hP hD
  clear hrw40
  have hP : zP g ([(q1, .inl (g.2 0, 76, .inl rw40))] ++ (dW pAll ad1 (cNew g) ++ dW pAll ad2 (cNew g))) H := hP
  have hD : va_D A ([(q1, .inl (g.2 0, 76, .inl rw40))] ++ (dW pAll ad1 (cNew g) ++ dW pAll ad2 (cNew g))) := hD
  refine lv_dup hx hb dL_law_209 rfl ?_
  refine lv_bipush (v := 39) hx hb dL_law_210 (by decide) ?_
  refine lv_iconst (v := 0) hx hb dL_law_212 (by decide) ?_
  refine va_iast hx hb hK hP hD hS 0 0 rfl rfl (z_in (by decide : (39 : Int32).toInt = 39) (by omega) (by omega)) dL_law_213 (fun H locs hP hD hS => ?_)
  rw [show (39 : Int32).toNatClampNeg = 39 from (by decide)] at hP hD
  have hP : zP g ([(q1, .inl (g.2 0, 76, .inl (upd rw40 39 0)))] ++ (dW pAll ad1 (cNew g) ++ dW pAll ad2 (cNew g))) H := hP
  have hD : va_D A ([(q1, .inl (g.2 0, 76, .inl (upd rw40 39 0)))] ++ (dW pAll ad1 (cNew g) ++ dW pAll ad2 (cNew g))) := hD
  obtain ⟨rw41, hrw41⟩ : ∃ f : Nat → Int32, f = upd rw40 39 0 := ⟨_, rfl⟩
  rw [← hrw41] at hP hD
  clear hrw41
  have hP : zP g ([(q1, .inl (g.2 0, 76, .inl rw41))] ++ (dW pAll ad1 (cNew g) ++ dW pAll ad2 (cNew g))) H := hP
  have hD : va_D A ([(q1, .inl (g.2 0, 76, .inl rw41))] ++ (dW pAll ad1 (cNew g) ++ dW pAll ad2 (cNew g))) := hD
  refine lv_dup hx hb dL_law_214 rfl ?_
  refine lv_bipush (v := 40) hx hb dL_law_215 (by decide) ?_
  refine lv_iconst (v := 0) hx hb dL_law_217 (by decide) ?_
  refine va_iast hx hb hK hP hD hS 0 0 rfl rfl (z_in (by decide : (40 : Int32).toInt = 40) (by omega) (by omega)) dL_law_218 (fun H locs hP hD hS => ?_)
  rw [show (40 : Int32).toNatClampNeg = 40 from (by decide)] at hP hD
  have hP : zP g ([(q1, .inl (g.2 0, 76, .inl (upd rw41 40 0)))] ++ (dW pAll ad1 (cNew g) ++ dW pAll ad2 (cNew g))) H := hP
  have hD : va_D A ([(q1, .inl (g.2 0, 76, .inl (upd rw41 40 0)))] ++ (dW pAll ad1 (cNew g) ++ dW pAll ad2 (cNew g))) := hD
  obtain ⟨rw42, hrw42⟩ : ∃ f : Nat → Int32, f = upd rw41 40 0 := ⟨_, rfl⟩
  rw [← hrw42] at hP hD
  clear hrw42
  have hP : zP g ([(q1, .inl (g.2 0, 76, .inl rw42))] ++ (dW pAll ad1 (cNew g) ++ dW pAll ad2 (cNew g))) H := hP
  have hD : va_D A ([(q1, .inl (g.2 0, 76, .inl rw42))] ++ (dW pAll ad1 (cNew g) ++ dW pAll ad2 (cNew g))) := hD
  refine lv_dup hx hb dL_law_219 rfl ?_
  refine lv_bipush (v := 41) hx hb dL_law_220 (by decide) ?_
  refine lv_iconst (v := 0) hx hb dL_law_222 (by decide) ?_
  refine va_iast hx hb hK hP hD hS 0 0 rfl rfl (z_in (by decide : (41 : Int32).toInt = 41) (by omega) (by omega)) dL_law_223 (fun H locs hP hD hS => ?_)
  rw [show (41 : Int32).toNatClampNeg = 41 from (by decide)] at hP hD
  have hP : zP g ([(q1, .inl (g.2 0, 76, .inl (upd rw42 41 0)))] ++ (dW pAll ad1 (cNew g) ++ dW pAll ad2 (cNew g))) H := hP
  have hD : va_D A ([(q1, .inl (g.2 0, 76, .inl (upd rw42 41 0)))] ++ (dW pAll ad1 (cNew g) ++ dW pAll ad2 (cNew g))) := hD
  obtain ⟨rw43, hrw43⟩ : ∃ f : Nat → Int32, f = upd rw42 41 0 := ⟨_, rfl⟩
  rw [← hrw43] at hP hD
  clear hrw43
  have hP : zP g ([(q1, .inl (g.2 0, 76, .inl rw43))] ++ (dW pAll ad1 (cNew g) ++ dW pAll ad2 (cNew g))) H := hP
  have hD : va_D A ([(q1, .inl (g.2 0, 76, .inl rw43))] ++ (dW pAll ad1 (cNew g) ++ dW pAll ad2 (cNew g))) := hD
  refine lv_dup hx hb dL_law_224 rfl ?_
  refine lv_bipush (v := 42) hx hb dL_law_225 (by decide) ?_
  refine lv_iconst (v := 0) hx hb dL_law_227 (by decide) ?_
  refine va_iast hx hb hK hP hD hS 0 0 rfl rfl (z_in (by decide : (42 : Int32).toInt = 42) (by omega) (by omega)) dL_law_228 (fun H locs hP hD hS => ?_)
  rw [show (42 : Int32).toNatClampNeg = 42 from (by decide)] at hP hD
  have hP : zP g ([(q1, .inl (g.2 0, 76, .inl (upd rw43 42 0)))] ++ (dW pAll ad1 (cNew g) ++ dW pAll ad2 (cNew g))) H := hP
  have hD : va_D A ([(q1, .inl (g.2 0, 76, .inl (upd rw43 42 0)))] ++ (dW pAll ad1 (cNew g) ++ dW pAll ad2 (cNew g))) := hD
  obtain ⟨rw44, hrw44⟩ : ∃ f : Nat → Int32, f = upd rw43 42 0 := ⟨_, rfl⟩
  rw [← hrw44] at hP hD
  clear hrw44
  have hP : zP g ([(q1, .inl (g.2 0, 76, .inl rw44))] ++ (dW pAll ad1 (cNew g) ++ dW pAll ad2 (cNew g))) H := hP
  have hD : va_D A ([(q1, .inl (g.2 0, 76, .inl rw44))] ++ (dW pAll ad1 (cNew g) ++ dW pAll ad2 (cNew g))) := hD
  refine lv_dup hx hb dL_law_229 rfl ?_
  refine lv_bipush (v := 43) hx hb dL_law_230 (by decide) ?_
  refine lv_iconst (v := 0) hx hb dL_law_232 (by decide) ?_
  refine va_iast hx hb hK hP hD hS 0 0 rfl rfl (z_in (by decide : (43 : Int32).toInt = 43) (by omega) (by omega)) dL_law_233 (fun H locs hP hD hS => ?_)
  rw [show (43 : Int32).toNatClampNeg = 43 from (by decide)] at hP hD
  have hP : zP g ([(q1, .inl (g.2 0, 76, .inl (upd rw44 43 0)))] ++ (dW pAll ad1 (cNew g) ++ dW pAll ad2 (cNew g))) H := hP
  have hD : va_D A ([(q1, .inl (g.2 0, 76, .inl (upd rw44 43 0)))] ++ (dW pAll ad1 (cNew g) ++ dW pAll ad2 (cNew g))) := hD
  obtain ⟨rw45, hrw45⟩ : ∃ f : Nat → Int32, f = upd rw44 43 0 := ⟨_, rfl⟩
  rw [← hrw45] at hP hD
  clear hrw45
  have hP : zP g ([(q1, .inl (g.2 0, 76, .inl rw45))] ++ (dW pAll ad1 (cNew g) ++ dW pAll ad2 (cNew g))) H := hP
  have hD : va_D A ([(q1, .inl (g.2 0, 76, .inl rw45))] ++ (dW pAll ad1 (cNew g) ++ dW pAll ad2 (cNew g))) := hD
  refine lv_dup hx hb dL_law_234 rfl ?_
  refine lv_bipush (v := 44) hx hb dL_law_235 (by decide) ?_
  refine lv_iconst (v := 0) hx hb dL_law_237 (by decide) ?_
  refine va_iast hx hb hK hP hD hS 0 0 rfl rfl (z_in (by decide : (44 : Int32).toInt = 44) (by omega) (by omega)) dL_law_238 (fun H locs hP hD hS => ?_)
  rw [show (44 : Int32).toNatClampNeg = 44 from (by decide)] at hP hD
  have hP : zP g ([(q1, .inl (g.2 0, 76, .inl (upd rw45 44 0)))] ++ (dW pAll ad1 (cNew g) ++ dW pAll ad2 (cNew g))) H := hP
  have hD : va_D A ([(q1, .inl (g.2 0, 76, .inl (upd rw45 44 0)))] ++ (dW pAll ad1 (cNew g) ++ dW pAll ad2 (cNew g))) := hD
  obtain ⟨rw46, hrw46⟩ : ∃ f : Nat → Int32, f = upd rw45 44 0 := ⟨_, rfl⟩
  rw [← hrw46] at hP hD
  clear hrw46
  have hP : zP g ([(q1, .inl (g.2 0, 76, .inl rw46))] ++ (dW pAll ad1 (cNew g) ++ dW pAll ad2 (cNew g))) H := hP
  have hD : va_D A ([(q1, .inl (g.2 0, 76, .inl rw46))] ++ (dW pAll ad1 (cNew g) ++ dW pAll ad2 (cNew g))) := hD
  refine lv_dup hx hb dL_law_239 rfl ?_
  refine lv_bipush (v := 45) hx hb dL_law_240 (by decide) ?_
  refine lv_iconst (v := 0) hx hb dL_law_242 (by decide) ?_
  refine va_iast hx hb hK hP hD hS 0 0 rfl rfl (z_in (by decide : (45 : Int32).toInt = 45) (by omega) (by omega)) dL_law_243 (fun H locs hP hD hS => ?_)
  rw [show (45 : Int32).toNatClampNeg = 45 from (by decide)] at hP hD
  have hP : zP g ([(q1, .inl (g.2 0, 76, .inl (upd rw46 45 0)))] ++ (dW pAll ad1 (cNew g) ++ dW pAll ad2 (cNew g))) H := hP
  have hD : va_D A ([(q1, .inl (g.2 0, 76, .inl (upd rw46 45 0)))] ++ (dW pAll ad1 (cNew g) ++ dW pAll ad2 (cNew g))) := hD
  obtain ⟨rw47, hrw47⟩ : ∃ f : Nat → Int32, f = upd rw46 45 0 := ⟨_, rfl⟩
  rw [← hrw47] at hP hD
  clear hrw47
  have hP : zP g ([(q1, .inl (g.2 0, 76, .inl rw47))] ++ (dW pAll ad1 (cNew g) ++ dW pAll ad2 (cNew g))) H := hP
  have hD : va_D A ([(q1, .inl (g.2 0, 76, .inl rw47))] ++ (dW pAll ad1 (cNew g) ++ dW pAll ad2 (cNew g))) := hD
  refine lv_dup hx hb dL_law_244 rfl ?_
  refine lv_bipush (v := 46) hx hb dL_law_245 (by decide) ?_
  refine lv_iconst (v := 0) hx hb dL_law_247 (by decide) ?_
  refine va_iast hx hb hK hP hD hS 0 0 rfl rfl (z_in (by decide : (46 : Int32).toInt = 46) (by omega) (by omega)) dL_law_248 (fun H locs hP hD hS => ?_)
  rw [show (46 : Int32).toNatClampNeg = 46 from (by decide)] at hP hD
  have hP : zP g ([(q1, .inl (g.2 0, 76, .inl (upd rw47 46 0)))] ++ (dW pAll ad1 (cNew g) ++ dW pAll ad2 (cNew g))) H := hP
  have hD : va_D A ([(q1, .inl (g.2 0, 76, .inl (upd rw47 46 0)))] ++ (dW pAll ad1 (cNew g) ++ dW pAll ad2 (cNew g))) := hD
  obtain ⟨rw48, hrw48⟩ : ∃ f : Nat → Int32, f = upd rw47 46 0 := ⟨_, rfl⟩
  rw [← hrw48] at hP hD
  clear hrw48
  have hP : zP g ([(q1, .inl (g.2 0, 76, .inl rw48))] ++ (dW pAll ad1 (cNew g) ++ dW pAll ad2 (cNew g))) H := hP
  have hD : va_D A ([(q1, .inl (g.2 0, 76, .inl rw48))] ++ (dW pAll ad1 (cNew g) ++ dW pAll ad2 (cNew g))) := hD
  refine lv_dup hx hb dL_law_249 rfl ?_
  refine lv_bipush (v := 47) hx hb dL_law_250 (by decide) ?_
  refine lv_iconst (v := 0) hx hb dL_law_252 (by decide) ?_
  refine va_iast hx hb hK hP hD hS 0 0 rfl rfl (z_in (by decide : (47 : Int32).toInt = 47) (by omega) (by omega)) dL_law_253 (fun H locs hP hD hS => ?_)
  rw [show (47 : Int32).toNatClampNeg = 47 from (by decide)] at hP hD
  have hP : zP g ([(q1, .inl (g.2 0, 76, .inl (upd rw48 47 0)))] ++ (dW pAll ad1 (cNew g) ++ dW pAll ad2 (cNew g))) H := hP
  have hD : va_D A ([(q1, .inl (g.2 0, 76, .inl (upd rw48 47 0)))] ++ (dW pAll ad1 (cNew g) ++ dW pAll ad2 (cNew g))) := hD
  obtain ⟨rw49, hrw49⟩ : ∃ f : Nat → Int32, f = upd rw48 47 0 := ⟨_, rfl⟩
  rw [← hrw49] at hP hD
  clear hrw49
  have hP : zP g ([(q1, .inl (g.2 0, 76, .inl rw49))] ++ (dW pAll ad1 (cNew g) ++ dW pAll ad2 (cNew g))) H := hP
  have hD : va_D A ([(q1, .inl (g.2 0, 76, .inl rw49))] ++ (dW pAll ad1 (cNew g) ++ dW pAll ad2 (cNew g))) := hD
  refine lv_dup hx hb dL_law_254 rfl ?_
  refine lv_bipush (v := 48) hx hb dL_law_255 (by decide) ?_
  refine lv_iconst (v := 0) hx hb dL_law_257 (by decide) ?_
  refine va_iast hx hb hK hP hD hS 0 0 rfl rfl (z_in (by decide : (48 : Int32).toInt = 48) (by omega) (by omega)) dL_law_258 (fun H locs hP hD hS => ?_)
  rw [show (48 : Int32).toNatClampNeg = 48 from (by decide)] at hP hD
  have hP : zP g ([(q1, .inl (g.2 0, 76, .inl (upd rw49 48 0)))] ++ (dW pAll ad1 (cNew g) ++ dW pAll ad2 (cNew g))) H := hP
  have hD : va_D A ([(q1, .inl (g.2 0, 76, .inl (upd rw49 48 0)))] ++ (dW pAll ad1 (cNew g) ++ dW pAll ad2 (cNew g))) := hD
  obtain ⟨rw50, hrw50⟩ : ∃ f : Nat → Int32, f = upd rw49 48 0 := ⟨_, rfl⟩
  rw [← hrw50] at hP hD
  clear hrw50
  have hP : zP g ([(q1, .inl (g.2 0, 76, .inl rw50))] ++ (dW pAll ad1 (cNew g) ++ dW pAll ad2 (cNew g))) H := hP
  have hD : va_D A ([(q1, .inl (g.2 0, 76, .inl rw50))] ++ (dW pAll ad1 (cNew g) ++ dW pAll ad2 (cNew g))) := hD
  refine lv_dup hx hb dL_law_259 rfl ?_
  refine lv_bipush (v := 49) hx hb dL_law_260 (by decide) ?_
  refine lv_iconst (v := 0) hx hb dL_law_262 (by decide) ?_
  refine va_iast hx hb hK hP hD hS 0 0 rfl rfl (z_in (by decide : (49 : Int32).toInt = 49) (by omega) (by omega)) dL_law_263 (fun H locs hP hD hS => ?_)
  rw [show (49 : Int32).toNatClampNeg = 49 from (by decide)] at hP hD
  have hP : zP g ([(q1, .inl (g.2 0, 76, .inl (upd rw50 49 0)))] ++ (dW pAll ad1 (cNew g) ++ dW pAll ad2 (cNew g))) H := hP
  have hD : va_D A ([(q1, .inl (g.2 0, 76, .inl (upd rw50 49 0)))] ++ (dW pAll ad1 (cNew g) ++ dW pAll ad2 (cNew g))) := hD
  obtain ⟨rw51, hrw51⟩ : ∃ f : Nat → Int32, f = upd rw50 49 0 := ⟨_, rfl⟩
  rw [← hrw51] at hP hD
  clear hrw51
  have hP : zP g ([(q1, .inl (g.2 0, 76, .inl rw51))] ++ (dW pAll ad1 (cNew g) ++ dW pAll ad2 (cNew g))) H := hP
  have hD : va_D A ([(q1, .inl (g.2 0, 76, .inl rw51))] ++ (dW pAll ad1 (cNew g) ++ dW pAll ad2 (cNew g))) := hD
  refine lv_dup hx hb dL_law_264 rfl ?_
  refine lv_bipush (v := 50) hx hb dL_law_265 (by decide) ?_
  refine lv_iconst (v := 0) hx hb dL_law_267 (by decide) ?_
  refine va_iast hx hb hK hP hD hS 0 0 rfl rfl (z_in (by decide : (50 : Int32).toInt = 50) (by omega) (by omega)) dL_law_268 (fun H locs hP hD hS => ?_)
  rw [show (50 : Int32).toNatClampNeg = 50 from (by decide)] at hP hD
  have hP : zP g ([(q1, .inl (g.2 0, 76, .inl (upd rw51 50 0)))] ++ (dW pAll ad1 (cNew g) ++ dW pAll ad2 (cNew g))) H := hP
  have hD : va_D A ([(q1, .inl (g.2 0, 76, .inl (upd rw51 50 0)))] ++ (dW pAll ad1 (cNew g) ++ dW pAll ad2 (cNew g))) := hD
  obtain ⟨rw52, hrw52⟩ : ∃ f : Nat → Int32, f = upd rw51 50 0 := ⟨_, rfl⟩
  rw [← hrw52] at hP hD
  clear hrw52
  have hP : zP g ([(q1, .inl (g.2 0, 76, .inl rw52))] ++ (dW pAll ad1 (cNew g) ++ dW pAll ad2 (cNew g))) H := hP
  have hD : va_D A ([(q1, .inl (g.2 0, 76, .inl rw52))] ++ (dW pAll ad1 (cNew g) ++ dW pAll ad2 (cNew g))) := hD
  refine lv_dup hx hb dL_law_269 rfl ?_
  refine lv_bipush (v := 51) hx hb dL_law_270 (by decide) ?_
  refine lv_iconst (v := 0) hx hb dL_law_272 (by decide) ?_
  refine va_iast hx hb hK hP hD hS 0 0 rfl rfl (z_in (by decide : (51 : Int32).toInt = 51) (by omega) (by omega)) dL_law_273 (fun H locs hP hD hS => ?_)
  rw [show (51 : Int32).toNatClampNeg = 51 from (by decide)] at hP hD
  have hP : zP g ([(q1, .inl (g.2 0, 76, .inl (upd rw52 51 0)))] ++ (dW pAll ad1 (cNew g) ++ dW pAll ad2 (cNew g))) H := hP
  have hD : va_D A ([(q1, .inl (g.2 0, 76, .inl (upd rw52 51 0)))] ++ (dW pAll ad1 (cNew g) ++ dW pAll ad2 (cNew g))) := hD
  obtain ⟨rw53, hrw53⟩ : ∃ f : Nat → Int32, f = upd rw52 51 0 := ⟨_, rfl⟩
  rw [← hrw53] at hP hD
  clear hrw53
  have hP : zP g ([(q1, .inl (g.2 0, 76, .inl rw53))] ++ (dW pAll ad1 (cNew g) ++ dW pAll ad2 (cNew g))) H := hP
  have hD : va_D A ([(q1, .inl (g.2 0, 76, .inl rw53))] ++ (dW pAll ad1 (cNew g) ++ dW pAll ad2 (cNew g))) := hD
  refine lv_dup hx hb dL_law_274 rfl ?_
  refine lv_bipush (v := 52) hx hb dL_law_275 (by decide) ?_
  refine lv_iconst (v := 0) hx hb dL_law_277 (by decide) ?_
  refine va_iast hx hb hK hP hD hS 0 0 rfl rfl (z_in (by decide : (52 : Int32).toInt = 52) (by omega) (by omega)) dL_law_278 (fun H locs hP hD hS => ?_)
  rw [show (52 : Int32).toNatClampNeg = 52 from (by decide)] at hP hD
  have hP : zP g ([(q1, .inl (g.2 0, 76, .inl (upd rw53 52 0)))] ++ (dW pAll ad1 (cNew g) ++ dW pAll ad2 (cNew g))) H := hP
  have hD : va_D A ([(q1, .inl (g.2 0, 76, .inl (upd rw53 52 0)))] ++ (dW pAll ad1 (cNew g) ++ dW pAll ad2 (cNew g))) := hD
  obtain ⟨rw54, hrw54⟩ : ∃ f : Nat → Int32, f = upd rw53 52 0 := ⟨_, rfl⟩
  rw [← hrw54] at hP hD
  clear hrw54
  have hP : zP g ([(q1, .inl (g.2 0, 76, .inl rw54))] ++ (dW pAll ad1 (cNew g) ++ dW pAll ad2 (cNew g))) H := hP
  have hD : va_D A ([(q1, .inl (g.2 0, 76, .inl rw54))] ++ (dW pAll ad1 (cNew g) ++ dW pAll ad2 (cNew g))) := hD
  refine lv_dup hx hb dL_law_279 rfl ?_
  refine lv_bipush (v := 53) hx hb dL_law_280 (by decide) ?_
  refine lv_iconst (v := 0) hx hb dL_law_282 (by decide) ?_
  refine va_iast hx hb hK hP hD hS 0 0 rfl rfl (z_in (by decide : (53 : Int32).toInt = 53) (by omega) (by omega)) dL_law_283 (fun H locs hP hD hS => ?_)
  rw [show (53 : Int32).toNatClampNeg = 53 from (by decide)] at hP hD
  have hP : zP g ([(q1, .inl (g.2 0, 76, .inl (upd rw54 53 0)))] ++ (dW pAll ad1 (cNew g) ++ dW pAll ad2 (cNew g))) H := hP
  have hD : va_D A ([(q1, .inl (g.2 0, 76, .inl (upd rw54 53 0)))] ++ (dW pAll ad1 (cNew g) ++ dW pAll ad2 (cNew g))) := hD
  obtain ⟨rw55, hrw55⟩ : ∃ f : Nat → Int32, f = upd rw54 53 0 := ⟨_, rfl⟩
  rw [← hrw55] at hP hD
  clear hrw55
  have hP : zP g ([(q1, .inl (g.2 0, 76, .inl rw55))] ++ (dW pAll ad1 (cNew g) ++ dW pAll ad2 (cNew g))) H := hP
  have hD : va_D A ([(q1, .inl (g.2 0, 76, .inl rw55))] ++ (dW pAll ad1 (cNew g) ++ dW pAll ad2 (cNew g))) := hD
  refine lv_dup hx hb dL_law_284 rfl ?_
  refine lv_bipush (v := 54) hx hb dL_law_285 (by decide) ?_
  refine lv_iconst (v := 0) hx hb dL_law_287 (by decide) ?_
  refine va_iast hx hb hK hP hD hS 0 0 rfl rfl (z_in (by decide : (54 : Int32).toInt = 54) (by omega) (by omega)) dL_law_288 (fun H locs hP hD hS => ?_)
  rw [show (54 : Int32).toNatClampNeg = 54 from (by decide)] at hP hD
  have hP : zP g ([(q1, .inl (g.2 0, 76, .inl (upd rw55 54 0)))] ++ (dW pAll ad1 (cNew g) ++ dW pAll ad2 (cNew g))) H := hP
  have hD : va_D A ([(q1, .inl (g.2 0, 76, .inl (upd rw55 54 0)))] ++ (dW pAll ad1 (cNew g) ++ dW pAll ad2 (cNew g))) := hD
  obtain ⟨rw56, hrw56⟩ : ∃ f : Nat → Int32, f = upd rw55 54 0 := ⟨_, rfl⟩
  rw [← hrw56] at hP hD
  clear hrw56
  have hP : zP g ([(q1, .inl (g.2 0, 76, .inl rw56))] ++ (dW pAll ad1 (cNew g) ++ dW pAll ad2 (cNew g))) H := hP
  have hD : va_D A ([(q1, .inl (g.2 0, 76, .inl rw56))] ++ (dW pAll ad1 (cNew g) ++ dW pAll ad2 (cNew g))) := hD
  refine lv_dup hx hb dL_law_289 rfl ?_
  refine lv_bipush (v := 55) hx hb dL_law_290 (by decide) ?_
  refine lv_iconst (v := 0) hx hb dL_law_292 (by decide) ?_
  refine va_iast hx hb hK hP hD hS 0 0 rfl rfl (z_in (by decide : (55 : Int32).toInt = 55) (by omega) (by omega)) dL_law_293 (fun H locs hP hD hS => ?_)
  rw [show (55 : Int32).toNatClampNeg = 55 from (by decide)] at hP hD
  have hP : zP g ([(q1, .inl (g.2 0, 76, .inl (upd rw56 55 0)))] ++ (dW pAll ad1 (cNew g) ++ dW pAll ad2 (cNew g))) H := hP
  have hD : va_D A ([(q1, .inl (g.2 0, 76, .inl (upd rw56 55 0)))] ++ (dW pAll ad1 (cNew g) ++ dW pAll ad2 (cNew g))) := hD
  obtain ⟨rw57, hrw57⟩ : ∃ f : Nat → Int32, f = upd rw56 55 0 := ⟨_, rfl⟩
  rw [← hrw57] at hP hD
  clear hrw57
  have hP : zP g ([(q1, .inl (g.2 0, 76, .inl rw57))] ++ (dW pAll ad1 (cNew g) ++ dW pAll ad2 (cNew g))) H := hP
  have hD : va_D A ([(q1, .inl (g.2 0, 76, .inl rw57))] ++ (dW pAll ad1 (cNew g) ++ dW pAll ad2 (cNew g))) := hD
  refine lv_dup hx hb dL_law_294 rfl ?_
  refine lv_bipush (v := 56) hx hb dL_law_295 (by decide) ?_
  refine lv_iconst (v := 0) hx hb dL_law_297 (by decide) ?_
  refine va_iast hx hb hK hP hD hS 0 0 rfl rfl (z_in (by decide : (56 : Int32).toInt = 56) (by omega) (by omega)) dL_law_298 (fun H locs hP hD hS => ?_)
  rw [show (56 : Int32).toNatClampNeg = 56 from (by decide)] at hP hD
  have hP : zP g ([(q1, .inl (g.2 0, 76, .inl (upd rw57 56 0)))] ++ (dW pAll ad1 (cNew g) ++ dW pAll ad2 (cNew g))) H := hP
  have hD : va_D A ([(q1, .inl (g.2 0, 76, .inl (upd rw57 56 0)))] ++ (dW pAll ad1 (cNew g) ++ dW pAll ad2 (cNew g))) := hD
  obtain ⟨rw58, hrw58⟩ : ∃ f : Nat → Int32, f = upd rw57 56 0 := ⟨_, rfl⟩
  rw [← hrw58] at hP hD
  clear hrw58
  have hP : zP g ([(q1, .inl (g.2 0, 76, .inl rw58))] ++ (dW pAll ad1 (cNew g) ++ dW pAll ad2 (cNew g))) H := hP
  have hD : va_D A ([(q1, .inl (g.2 0, 76, .inl rw58))] ++ (dW pAll ad1 (cNew g) ++ dW pAll ad2 (cNew g))) := hD
  refine lv_dup hx hb dL_law_299 rfl ?_
  refine lv_bipush (v := 57) hx hb dL_law_300 (by decide) ?_
  refine lv_iconst (v := 0) hx hb dL_law_302 (by decide) ?_
  refine va_iast hx hb hK hP hD hS 0 0 rfl rfl (z_in (by decide : (57 : Int32).toInt = 57) (by omega) (by omega)) dL_law_303 (fun H locs hP hD hS => ?_)
  rw [show (57 : Int32).toNatClampNeg = 57 from (by decide)] at hP hD
  have hP : zP g ([(q1, .inl (g.2 0, 76, .inl (upd rw58 57 0)))] ++ (dW pAll ad1 (cNew g) ++ dW pAll ad2 (cNew g))) H := hP
  have hD : va_D A ([(q1, .inl (g.2 0, 76, .inl (upd rw58 57 0)))] ++ (dW pAll ad1 (cNew g) ++ dW pAll ad2 (cNew g))) := hD
  obtain ⟨rw59, hrw59⟩ : ∃ f : Nat → Int32, f = upd rw58 57 0 := ⟨_, rfl⟩
  rw [← hrw59] at hP hD
  clear hrw59
  have hP : zP g ([(q1, .inl (g.2 0, 76, .inl rw59))] ++ (dW pAll ad1 (cNew g) ++ dW pAll ad2 (cNew g))) H := hP
  have hD : va_D A ([(q1, .inl (g.2 0, 76, .inl rw59))] ++ (dW pAll ad1 (cNew g) ++ dW pAll ad2 (cNew g))) := hD
  refine lv_dup hx hb dL_law_304 rfl ?_
  refine lv_bipush (v := 58) hx hb dL_law_305 (by decide) ?_
  refine lv_iconst (v := 0) hx hb dL_law_307 (by decide) ?_
  refine va_iast hx hb hK hP hD hS 0 0 rfl rfl (z_in (by decide : (58 : Int32).toInt = 58) (by omega) (by omega)) dL_law_308 (fun H locs hP hD hS => ?_)
  rw [show (58 : Int32).toNatClampNeg = 58 from (by decide)] at hP hD
  have hP : zP g ([(q1, .inl (g.2 0, 76, .inl (upd rw59 58 0)))] ++ (dW pAll ad1 (cNew g) ++ dW pAll ad2 (cNew g))) H := hP
  have hD : va_D A ([(q1, .inl (g.2 0, 76, .inl (upd rw59 58 0)))] ++ (dW pAll ad1 (cNew g) ++ dW pAll ad2 (cNew g))) := hD
  obtain ⟨rw60, hrw60⟩ : ∃ f : Nat → Int32, f = upd rw59 58 0 := ⟨_, rfl⟩
  rw [← hrw60] at hP hD
  clear hrw60
  have hP : zP g ([(q1, .inl (g.2 0, 76, .inl rw60))] ++ (dW pAll ad1 (cNew g) ++ dW pAll ad2 (cNew g))) H := hP
  have hD : va_D A ([(q1, .inl (g.2 0, 76, .inl rw60))] ++ (dW pAll ad1 (cNew g) ++ dW pAll ad2 (cNew g))) := hD
  refine lv_dup hx hb dL_law_309 rfl ?_
  refine lv_bipush (v := 59) hx hb dL_law_310 (by decide) ?_
  refine lv_iconst (v := 0) hx hb dL_law_312 (by decide) ?_
  refine va_iast hx hb hK hP hD hS 0 0 rfl rfl (z_in (by decide : (59 : Int32).toInt = 59) (by omega) (by omega)) dL_law_313 (fun H locs hP hD hS => ?_)
  rw [show (59 : Int32).toNatClampNeg = 59 from (by decide)] at hP hD
  have hP : zP g ([(q1, .inl (g.2 0, 76, .inl (upd rw60 59 0)))] ++ (dW pAll ad1 (cNew g) ++ dW pAll ad2 (cNew g))) H := hP
  have hD : va_D A ([(q1, .inl (g.2 0, 76, .inl (upd rw60 59 0)))] ++ (dW pAll ad1 (cNew g) ++ dW pAll ad2 (cNew g))) := hD
  obtain ⟨rw61, hrw61⟩ : ∃ f : Nat → Int32, f = upd rw60 59 0 := ⟨_, rfl⟩
  rw [← hrw61] at hP hD
  clear hrw61
  have hP : zP g ([(q1, .inl (g.2 0, 76, .inl rw61))] ++ (dW pAll ad1 (cNew g) ++ dW pAll ad2 (cNew g))) H := hP
  have hD : va_D A ([(q1, .inl (g.2 0, 76, .inl rw61))] ++ (dW pAll ad1 (cNew g) ++ dW pAll ad2 (cNew g))) := hD
  refine lv_dup hx hb dL_law_314 rfl ?_
  refine lv_bipush (v := 60) hx hb dL_law_315 (by decide) ?_
  refine lv_iconst (v := 0) hx hb dL_law_317 (by decide) ?_
  refine va_iast hx hb hK hP hD hS 0 0 rfl rfl (z_in (by decide : (60 : Int32).toInt = 60) (by omega) (by omega)) dL_law_318 (fun H locs hP hD hS => ?_)
  rw [show (60 : Int32).toNatClampNeg = 60 from (by decide)] at hP hD
  have hP : zP g ([(q1, .inl (g.2 0, 76, .inl (upd rw61 60 0)))] ++ (dW pAll ad1 (cNew g) ++ dW pAll ad2 (cNew g))) H := hP
  have hD : va_D A ([(q1, .inl (g.2 0, 76, .inl (upd rw61 60 0)))] ++ (dW pAll ad1 (cNew g) ++ dW pAll ad2 (cNew g))) := hD
  obtain ⟨rw62, hrw62⟩ : ∃ f : Nat → Int32, f = upd rw61 60 0 := ⟨_, rfl⟩
  rw [← hrw62] at hP hD
  clear hrw62
  have hP : zP g ([(q1, .inl (g.2 0, 76, .inl rw62))] ++ (dW pAll ad1 (cNew g) ++ dW pAll ad2 (cNew g))) H := hP
  have hD : va_D A ([(q1, .inl (g.2 0, 76, .inl rw62))] ++ (dW pAll ad1 (cNew g) ++ dW pAll ad2 (cNew g))) := hD
  refine lv_dup hx hb dL_law_319 rfl ?_
  refine lv_bipush (v := 61) hx hb dL_law_320 (by decide) ?_
  refine lv_iconst (v := 0) hx hb dL_law_322 (by decide) ?_
  refine va_iast hx hb hK hP hD hS 0 0 rfl rfl (z_in (by decide : (61 : Int32).toInt = 61) (by omega) (by omega)) dL_law_323 (fun H locs hP hD hS => ?_)
  rw [show (61 : Int32).toNatClampNeg = 61 from (by decide)] at hP hD
  have hP : zP g ([(q1, .inl (g.2 0, 76, .inl (upd rw62 61 0)))] ++ (dW pAll ad1 (cNew g) ++ dW pAll ad2 (cNew g))) H := hP
  have hD : va_D A ([(q1, .inl (g.2 0, 76, .inl (upd rw62 61 0)))] ++ (dW pAll ad1 (cNew g) ++ dW pAll ad2 (cNew g))) := hD
  obtain ⟨rw63, hrw63⟩ : ∃ f : Nat → Int32, f = upd rw62 61 0 := ⟨_, rfl⟩
  rw [← hrw63] at hP hD
  clear hrw63
  have hP : zP g ([(q1, .inl (g.2 0, 76, .inl rw63))] ++ (dW pAll ad1 (cNew g) ++ dW pAll ad2 (cNew g))) H := hP
  have hD : va_D A ([(q1, .inl (g.2 0, 76, .inl rw63))] ++ (dW pAll ad1 (cNew g) ++ dW pAll ad2 (cNew g))) := hD
  refine lv_dup hx hb dL_law_324 rfl ?_
  refine lv_bipush (v := 62) hx hb dL_law_325 (by decide) ?_
  refine lv_iconst (v := 0) hx hb dL_law_327 (by decide) ?_
  refine va_iast hx hb hK hP hD hS 0 0 rfl rfl (z_in (by decide : (62 : Int32).toInt = 62) (by omega) (by omega)) dL_law_328 (fun H locs hP hD hS => ?_)
  rw [show (62 : Int32).toNatClampNeg = 62 from (by decide)] at hP hD
  have hP : zP g ([(q1, .inl (g.2 0, 76, .inl (upd rw63 62 0)))] ++ (dW pAll ad1 (cNew g) ++ dW pAll ad2 (cNew g))) H := hP
  have hD : va_D A ([(q1, .inl (g.2 0, 76, .inl (upd rw63 62 0)))] ++ (dW pAll ad1 (cNew g) ++ dW pAll ad2 (cNew g))) := hD
  obtain ⟨rw64, hrw64⟩ : ∃ f : Nat → Int32, f = upd rw63 62 0 := ⟨_, rfl⟩
  rw [← hrw64] at hP hD
  clear hrw64
  have hP : zP g ([(q1, .inl (g.2 0, 76, .inl rw64))] ++ (dW pAll ad1 (cNew g) ++ dW pAll ad2 (cNew g))) H := hP
  have hD : va_D A ([(q1, .inl (g.2 0, 76, .inl rw64))] ++ (dW pAll ad1 (cNew g) ++ dW pAll ad2 (cNew g))) := hD
  refine lv_dup hx hb dL_law_329 rfl ?_
  refine lv_bipush (v := 63) hx hb dL_law_330 (by decide) ?_
  refine lv_iconst (v := 0) hx hb dL_law_332 (by decide) ?_
  refine va_iast hx hb hK hP hD hS 0 0 rfl rfl (z_in (by decide : (63 : Int32).toInt = 63) (by omega) (by omega)) dL_law_333 (fun H locs hP hD hS => ?_)
  rw [show (63 : Int32).toNatClampNeg = 63 from (by decide)] at hP hD
  have hP : zP g ([(q1, .inl (g.2 0, 76, .inl (upd rw64 63 0)))] ++ (dW pAll ad1 (cNew g) ++ dW pAll ad2 (cNew g))) H := hP
  have hD : va_D A ([(q1, .inl (g.2 0, 76, .inl (upd rw64 63 0)))] ++ (dW pAll ad1 (cNew g) ++ dW pAll ad2 (cNew g))) := hD
  obtain ⟨rw65, hrw65⟩ : ∃ f : Nat → Int32, f = upd rw64 63 0 := ⟨_, rfl⟩
  rw [← hrw65] at hP hD
  clear hrw65
  have hP : zP g ([(q1, .inl (g.2 0, 76, .inl rw65))] ++ (dW pAll ad1 (cNew g) ++ dW pAll ad2 (cNew g))) H := hP
  have hD : va_D A ([(q1, .inl (g.2 0, 76, .inl rw65))] ++ (dW pAll ad1 (cNew g) ++ dW pAll ad2 (cNew g))) := hD
  refine lv_dup hx hb dL_law_334 rfl ?_
  refine lv_bipush (v := 64) hx hb dL_law_335 (by decide) ?_
  refine lv_iconst (v := 0) hx hb dL_law_337 (by decide) ?_
  refine va_iast hx hb hK hP hD hS 0 0 rfl rfl (z_in (by decide : (64 : Int32).toInt = 64) (by omega) (by omega)) dL_law_338 (fun H locs hP hD hS => ?_)
  rw [show (64 : Int32).toNatClampNeg = 64 from (by decide)] at hP hD
  have hP : zP g ([(q1, .inl (g.2 0, 76, .inl (upd rw65 64 0)))] ++ (dW pAll ad1 (cNew g) ++ dW pAll ad2 (cNew g))) H := hP
  have hD : va_D A ([(q1, .inl (g.2 0, 76, .inl (upd rw65 64 0)))] ++ (dW pAll ad1 (cNew g) ++ dW pAll ad2 (cNew g))) := hD
  obtain ⟨rw66, hrw66⟩ : ∃ f : Nat → Int32, f = upd rw65 64 0 := ⟨_, rfl⟩
  rw [← hrw66] at hP hD
  clear hrw66
  have hP : zP g ([(q1, .inl (g.2 0, 76, .inl rw66))] ++ (dW pAll ad1 (cNew g) ++ dW pAll ad2 (cNew g))) H := hP
  have hD : va_D A ([(q1, .inl (g.2 0, 76, .inl rw66))] ++ (dW pAll ad1 (cNew g) ++ dW pAll ad2 (cNew g))) := hD
  refine lv_dup hx hb dL_law_339 rfl ?_
  refine lv_bipush (v := 65) hx hb dL_law_340 (by decide) ?_
  refine lv_iconst (v := 0) hx hb dL_law_342 (by decide) ?_
  refine va_iast hx hb hK hP hD hS 0 0 rfl rfl (z_in (by decide : (65 : Int32).toInt = 65) (by omega) (by omega)) dL_law_343 (fun H locs hP hD hS => ?_)
  rw [show (65 : Int32).toNatClampNeg = 65 from (by decide)] at hP hD
  have hP : zP g ([(q1, .inl (g.2 0, 76, .inl (upd rw66 65 0)))] ++ (dW pAll ad1 (cNew g) ++ dW pAll ad2 (cNew g))) H := hP
  have hD : va_D A ([(q1, .inl (g.2 0, 76, .inl (upd rw66 65 0)))] ++ (dW pAll ad1 (cNew g) ++ dW pAll ad2 (cNew g))) := hD
  obtain ⟨rw67, hrw67⟩ : ∃ f : Nat → Int32, f = upd rw66 65 0 := ⟨_, rfl⟩
  rw [← hrw67] at hP hD
  clear hrw67
  have hP : zP g ([(q1, .inl (g.2 0, 76, .inl rw67))] ++ (dW pAll ad1 (cNew g) ++ dW pAll ad2 (cNew g))) H := hP
  have hD : va_D A ([(q1, .inl (g.2 0, 76, .inl rw67))] ++ (dW pAll ad1 (cNew g) ++ dW pAll ad2 (cNew g))) := hD
  refine lv_dup hx hb dL_law_344 rfl ?_
  refine lv_bipush (v := 66) hx hb dL_law_345 (by decide) ?_
  refine lv_iconst (v := 0) hx hb dL_law_347 (by decide) ?_
  refine va_iast hx hb hK hP hD hS 0 0 rfl rfl (z_in (by decide : (66 : Int32).toInt = 66) (by omega) (by omega)) dL_law_348 (fun H locs hP hD hS => ?_)
  rw [show (66 : Int32).toNatClampNeg = 66 from (by decide)] at hP hD
  have hP : zP g ([(q1, .inl (g.2 0, 76, .inl (upd rw67 66 0)))] ++ (dW pAll ad1 (cNew g) ++ dW pAll ad2 (cNew g))) H := hP
  have hD : va_D A ([(q1, .inl (g.2 0, 76, .inl (upd rw67 66 0)))] ++ (dW pAll ad1 (cNew g) ++ dW pAll ad2 (cNew g))) := hD
  obtain ⟨rw68, hrw68⟩ : ∃ f : Nat → Int32, f = upd rw67 66 0 := ⟨_, rfl⟩
  rw [← hrw68] at hP hD
  clear hrw68
  have hP : zP g ([(q1, .inl (g.2 0, 76, .inl rw68))] ++ (dW pAll ad1 (cNew g) ++ dW pAll ad2 (cNew g))) H := hP
  have hD : va_D A ([(q1, .inl (g.2 0, 76, .inl rw68))] ++ (dW pAll ad1 (cNew g) ++ dW pAll ad2 (cNew g))) := hD
  refine lv_dup hx hb dL_law_349 rfl ?_
  refine lv_bipush (v := 67) hx hb dL_law_350 (by decide) ?_
  refine lv_iconst (v := 0) hx hb dL_law_352 (by decide) ?_
  refine va_iast hx hb hK hP hD hS 0 0 rfl rfl (z_in (by decide : (67 : Int32).toInt = 67) (by omega) (by omega)) dL_law_353 (fun H locs hP hD hS => ?_)
  rw [show (67 : Int32).toNatClampNeg = 67 from (by decide)] at hP hD
  have hP : zP g ([(q1, .inl (g.2 0, 76, .inl (upd rw68 67 0)))] ++ (dW pAll ad1 (cNew g) ++ dW pAll ad2 (cNew g))) H := hP
  have hD : va_D A ([(q1, .inl (g.2 0, 76, .inl (upd rw68 67 0)))] ++ (dW pAll ad1 (cNew g) ++ dW pAll ad2 (cNew g))) := hD
  obtain ⟨rw69, hrw69⟩ : ∃ f : Nat → Int32, f = upd rw68 67 0 := ⟨_, rfl⟩
  rw [← hrw69] at hP hD
  clear hrw69
  have hP : zP g ([(q1, .inl (g.2 0, 76, .inl rw69))] ++ (dW pAll ad1 (cNew g) ++ dW pAll ad2 (cNew g))) H := hP
  have hD : va_D A ([(q1, .inl (g.2 0, 76, .inl rw69))] ++ (dW pAll ad1 (cNew g) ++ dW pAll ad2 (cNew g))) := hD
  refine lv_dup hx hb dL_law_354 rfl ?_
  refine lv_bipush (v := 68) hx hb dL_law_355 (by decide) ?_
  refine lv_iconst (v := 0) hx hb dL_law_357 (by decide) ?_
  refine va_iast hx hb hK hP hD hS 0 0 rfl rfl (z_in (by decide : (68 : Int32).toInt = 68) (by omega) (by omega)) dL_law_358 (fun H locs hP hD hS => ?_)
  rw [show (68 : Int32).toNatClampNeg = 68 from (by decide)] at hP hD
  have hP : zP g ([(q1, .inl (g.2 0, 76, .inl (upd rw69 68 0)))] ++ (dW pAll ad1 (cNew g) ++ dW pAll ad2 (cNew g))) H := hP
  have hD : va_D A ([(q1, .inl (g.2 0, 76, .inl (upd rw69 68 0)))] ++ (dW pAll ad1 (cNew g) ++ dW pAll ad2 (cNew g))) := hD
  obtain ⟨rw70, hrw70⟩ : ∃ f : Nat → Int32, f = upd rw69 68 0 := ⟨_, rfl⟩
  rw [← hrw70] at hP hD
  clear hrw70
  have hP : zP g ([(q1, .inl (g.2 0, 76, .inl rw70))] ++ (dW pAll ad1 (cNew g) ++ dW pAll ad2 (cNew g))) H := hP
  have hD : va_D A ([(q1, .inl (g.2 0, 76, .inl rw70))] ++ (dW pAll ad1 (cNew g) ++ dW pAll ad2 (cNew g))) := hD
  refine lv_dup hx hb dL_law_359 rfl ?_
  refine lv_bipush (v := 69) hx hb dL_law_360 (by decide) ?_
  refine lv_iconst (v := 0) hx hb dL_law_362 (by decide) ?_
  refine va_iast hx hb hK hP hD hS 0 0 rfl rfl (z_in (by decide : (69 : Int32).toInt = 69) (by omega) (by omega)) dL_law_363 (fun H locs hP hD hS => ?_)
  rw [show (69 : Int32).toNatClampNeg = 69 from (by decide)] at hP hD
  have hP : zP g ([(q1, .inl (g.2 0, 76, .inl (upd rw70 69 0)))] ++ (dW pAll ad1 (cNew g) ++ dW pAll ad2 (cNew g))) H := hP
  have hD : va_D A ([(q1, .inl (g.2 0, 76, .inl (upd rw70 69 0)))] ++ (dW pAll ad1 (cNew g) ++ dW pAll ad2 (cNew g))) := hD
  obtain ⟨rw71, hrw71⟩ : ∃ f : Nat → Int32, f = upd rw70 69 0 := ⟨_, rfl⟩
  rw [← hrw71] at hP hD
  clear hrw71
  have hP : zP g ([(q1, .inl (g.2 0, 76, .inl rw71))] ++ (dW pAll ad1 (cNew g) ++ dW pAll ad2 (cNew g))) H := hP
  have hD : va_D A ([(q1, .inl (g.2 0, 76, .inl rw71))] ++ (dW pAll ad1 (cNew g) ++ dW pAll ad2 (cNew g))) := hD
  refine lv_dup hx hb dL_law_364 rfl ?_
  refine lv_bipush (v := 70) hx hb dL_law_365 (by decide) ?_
  refine lv_iconst (v := 0) hx hb dL_law_367 (by decide) ?_
  refine va_iast hx hb hK hP hD hS 0 0 rfl rfl (z_in (by decide : (70 : Int32).toInt = 70) (by omega) (by omega)) dL_law_368 (fun H locs hP hD hS => ?_)
  rw [show (70 : Int32).toNatClampNeg = 70 from (by decide)] at hP hD
  have hP : zP g ([(q1, .inl (g.2 0, 76, .inl (upd rw71 70 0)))] ++ (dW pAll ad1 (cNew g) ++ dW pAll ad2 (cNew g))) H := hP
  have hD : va_D A ([(q1, .inl (g.2 0, 76, .inl (upd rw71 70 0)))] ++ (dW pAll ad1 (cNew g) ++ dW pAll ad2 (cNew g))) := hD
  obtain ⟨rw72, hrw72⟩ : ∃ f : Nat → Int32, f = upd rw71 70 0 := ⟨_, rfl⟩
  rw [← hrw72] at hP hD
  clear hrw72
  have hP : zP g ([(q1, .inl (g.2 0, 76, .inl rw72))] ++ (dW pAll ad1 (cNew g) ++ dW pAll ad2 (cNew g))) H := hP
  have hD : va_D A ([(q1, .inl (g.2 0, 76, .inl rw72))] ++ (dW pAll ad1 (cNew g) ++ dW pAll ad2 (cNew g))) := hD
  refine lv_dup hx hb dL_law_369 rfl ?_
  refine lv_bipush (v := 71) hx hb dL_law_370 (by decide) ?_
  refine lv_iconst (v := 0) hx hb dL_law_372 (by decide) ?_
  refine va_iast hx hb hK hP hD hS 0 0 rfl rfl (z_in (by decide : (71 : Int32).toInt = 71) (by omega) (by omega)) dL_law_373 (fun H locs hP hD hS => ?_)
  rw [show (71 : Int32).toNatClampNeg = 71 from (by decide)] at hP hD
  have hP : zP g ([(q1, .inl (g.2 0, 76, .inl (upd rw72 71 0)))] ++ (dW pAll ad1 (cNew g) ++ dW pAll ad2 (cNew g))) H := hP
  have hD : va_D A ([(q1, .inl (g.2 0, 76, .inl (upd rw72 71 0)))] ++ (dW pAll ad1 (cNew g) ++ dW pAll ad2 (cNew g))) := hD
  obtain ⟨rw73, hrw73⟩ : ∃ f : Nat → Int32, f = upd rw72 71 0 := ⟨_, rfl⟩
  rw [← hrw73] at hP hD
  clear hrw73
  have hP : zP g ([(q1, .inl (g.2 0, 76, .inl rw73))] ++ (dW pAll ad1 (cNew g) ++ dW pAll ad2 (cNew g))) H := hP
  have hD : va_D A ([(q1, .inl (g.2 0, 76, .inl rw73))] ++ (dW pAll ad1 (cNew g) ++ dW pAll ad2 (cNew g))) := hD
  refine lv_dup hx hb dL_law_374 rfl ?_
  refine lv_bipush (v := 72) hx hb dL_law_375 (by decide) ?_
  refine lv_iconst (v := 0) hx hb dL_law_377 (by decide) ?_
  refine va_iast hx hb hK hP hD hS 0 0 rfl rfl (z_in (by decide : (72 : Int32).toInt = 72) (by omega) (by omega)) dL_law_378 (fun H locs hP hD hS => ?_)
  rw [show (72 : Int32).toNatClampNeg = 72 from (by decide)] at hP hD
  have hP : zP g ([(q1, .inl (g.2 0, 76, .inl (upd rw73 72 0)))] ++ (dW pAll ad1 (cNew g) ++ dW pAll ad2 (cNew g))) H := hP
  have hD : va_D A ([(q1, .inl (g.2 0, 76, .inl (upd rw73 72 0)))] ++ (dW pAll ad1 (cNew g) ++ dW pAll ad2 (cNew g))) := hD
  obtain ⟨rw74, hrw74⟩ : ∃ f : Nat → Int32, f = upd rw73 72 0 := ⟨_, rfl⟩
  rw [← hrw74] at hP hD
  clear hrw74
  have hP : zP g ([(q1, .inl (g.2 0, 76, .inl rw74))] ++ (dW pAll ad1 (cNew g) ++ dW pAll ad2 (cNew g))) H := hP
  have hD : va_D A ([(q1, .inl (g.2 0, 76, .inl rw74))] ++ (dW pAll ad1 (cNew g) ++ dW pAll ad2 (cNew g))) := hD
  refine lv_dup hx hb dL_law_379 rfl ?_
  refine lv_bipush (v := 73) hx hb dL_law_380 (by decide) ?_
  refine lv_iconst (v := 0) hx hb dL_law_382 (by decide) ?_
  refine va_iast hx hb hK hP hD hS 0 0 rfl rfl (z_in (by decide : (73 : Int32).toInt = 73) (by omega) (by omega)) dL_law_383 (fun H locs hP hD hS => ?_)
  rw [show (73 : Int32).toNatClampNeg = 73 from (by decide)] at hP hD
  have hP : zP g ([(q1, .inl (g.2 0, 76, .inl (upd rw74 73 0)))] ++ (dW pAll ad1 (cNew g) ++ dW pAll ad2 (cNew g))) H := hP
  have hD : va_D A ([(q1, .inl (g.2 0, 76, .inl (upd rw74 73 0)))] ++ (dW pAll ad1 (cNew g) ++ dW pAll ad2 (cNew g))) := hD
  obtain ⟨rw75, hrw75⟩ : ∃ f : Nat → Int32, f = upd rw74 73 0 := ⟨_, rfl⟩
  rw [← hrw75] at hP hD
  clear hrw75
  have hP : zP g ([(q1, .inl (g.2 0, 76, .inl rw75))] ++ (dW pAll ad1 (cNew g) ++ dW pAll ad2 (cNew g))) H := hP
  have hD : va_D A ([(q1, .inl (g.2 0, 76, .inl rw75))] ++ (dW pAll ad1 (cNew g) ++ dW pAll ad2 (cNew g))) := hD
  refine lv_dup hx hb dL_law_384 rfl ?_
  refine lv_bipush (v := 74) hx hb dL_law_385 (by decide) ?_
  refine lv_iconst (v := 0) hx hb dL_law_387 (by decide) ?_
  refine va_iast hx hb hK hP hD hS 0 0 rfl rfl (z_in (by decide : (74 : Int32).toInt = 74) (by omega) (by omega)) dL_law_388 (fun H locs hP hD hS => ?_)
  rw [show (74 : Int32).toNatClampNeg = 74 from (by decide)] at hP hD
  have hP : zP g ([(q1, .inl (g.2 0, 76, .inl (upd rw75 74 0)))] ++ (dW pAll ad1 (cNew g) ++ dW pAll ad2 (cNew g))) H := hP
  have hD : va_D A ([(q1, .inl (g.2 0, 76, .inl (upd rw75 74 0)))] ++ (dW pAll ad1 (cNew g) ++ dW pAll ad2 (cNew g))) := hD
  obtain ⟨rw76, hrw76⟩ : ∃ f : Nat → Int32, f = upd rw75 74 0 := ⟨_, rfl⟩
  rw [← hrw76] at hP hD
  clear hrw76
  have hP : zP g ([(q1, .inl (g.2 0, 76, .inl rw76))] ++ (dW pAll ad1 (cNew g) ++ dW pAll ad2 (cNew g))) H := hP
  have hD : va_D A ([(q1, .inl (g.2 0, 76, .inl rw76))] ++ (dW pAll ad1 (cNew g) ++ dW pAll ad2 (cNew g))) := hD
  refine lv_dup hx hb dL_law_389 rfl ?_
  refine lv_bipush (v := 75) hx hb dL_law_390 (by decide) ?_
  refine lv_iconst (v := 0) hx hb dL_law_392 (by decide) ?_
  refine va_iast hx hb hK hP hD hS 0 0 rfl rfl (z_in (by decide : (75 : Int32).toInt = 75) (by omega) (by omega)) dL_law_393 (fun H locs hP hD hS => ?_)
  rw [show (75 : Int32).toNatClampNeg = 75 from (by decide)] at hP hD
  have hP : zP g ([(q1, .inl (g.2 0, 76, .inl (upd rw76 75 0)))] ++ (dW pAll ad1 (cNew g) ++ dW pAll ad2 (cNew g))) H := hP
  have hD : va_D A ([(q1, .inl (g.2 0, 76, .inl (upd rw76 75 0)))] ++ (dW pAll ad1 (cNew g) ++ dW pAll ad2 (cNew g))) := hD
  obtain ⟨rw77, hrw77⟩ : ∃ f : Nat → Int32, f = upd rw76 75 0 := ⟨_, rfl⟩
  rw [← hrw77] at hP hD
  clear hrw77
  have hP : zP g ([(q1, .inl (g.2 0, 76, .inl rw77))] ++ (dW pAll ad1 (cNew g) ++ dW pAll ad2 (cNew g))) H := hP
  have hD : va_D A ([(q1, .inl (g.2 0, 76, .inl rw77))] ++ (dW pAll ad1 (cNew g) ++ dW pAll ad2 (cNew g))) := hD
  refine lv_astore_n (lv' := [(3, .ref q1), (2, .ref (ad2 0)), (1, .ref (ad1 0)), (0, .ref b)]) hx hb dL_law_394 rfl hl (by decide) rfl (fun ls hl => ?_)
  refine lv_aload_n hx hb dL_law_395 rfl (lv_at hl 2 rfl) ?_
  refine lv_aload_n hx hb dL_law_396 rfl (lv_at hl 3 rfl) ?_
  refine lv_aload_n hx hb dL_law_397 rfl (lv_at hl 0 rfl) ?_
  have hPs : zP g (([(q1, .inl (g.2 0, 76, .inl rw77))] ++ (dW pAll ad1 (cNew g) ++ [])) ++ dW pAll ad2 (cNew g)) H := zP_perm pm_t1 hP
  have hDs : va_D A (([(q1, .inl (g.2 0, 76, .inl rw77))] ++ (dW pAll ad1 (cNew g) ++ [])) ++ dW pAll ad2 (cNew g)) := zD_perm pm_t1 hD
  have hPc := zP_l hPs
  have hDc := zD_l hDs
  have hFc : ∀ q, va_A ([(q1, .inl (g.2 0, 76, .inl rw77))] ++ (dW pAll ad1 (cNew g) ++ [])) H.size q → A q := fun q h => by
    rcases h with ⟨k, e, h⟩ | h
    · exact hDc.2 k _ h
    · exact hA q (Nat.le_trans hS.1 h)
  refine va_calli (va_runS (As := [.ref (ad1 0), .ref b, .ref q1]) (rest := []) ⟨hx, hb, hml, hown, hg⟩ (c_town l g H.size L xs hL b q1 ad1 (cNew g) rw77 C0_I C0_0 C0_3) (va_cwS 3 hg (z_gS mm_540 mm_541 mm_51 mm_542) rfl rfl rfl (by decide +kernel) ⟨(Nat.le_of_ble_eq_true rfl), (Nat.le_of_ble_eq_true rfl)⟩) (zB.pre [.ref (ad1 0), .ref b, .ref q1] hPc hK hDc hN (vaX_at hX hbl hbA hS) (Nat.lt_of_lt_of_le hbl hS.1) (nb_at hFc hbA)) rfl rfl hl.1 rfl (lv_room (Nat.le_of_ble_eq_true rfl)) dL_law_398 ⟨(Nat.le_of_ble_eq_true rfl), (Nat.le_of_ble_eq_true rfl)⟩) hS (fun q _ h => hFc q h) hFc (fun r78 u t H1 locs ht hvm hr78 hB hz1 hk1 hS => ?_)
  obtain ⟨ct79, rw80, hP1, hD1, hI81, hk82, hk83, hrel84⟩ := hB
  rw [ht] at hP1
  obtain ⟨hPn, hDn⟩ := z_two hPs hDs hk1 hFc hP1 hD1
  clear hP hD hPs hDs hPc hDc hP1 hD1
  have hP := zP_perm pm_t1.symm hPn
  have hD := zD_perm pm_t1.symm hDn
  clear hPn hDn hFc
  generalize H1 = H at hP hS ⊢
  refine W.widen (k := 356) (n := 8106) (Nat.le_of_ble_eq_true rfl) (Nat.le_of_ble_eq_true rfl) ?_
  have hP : zP g ([(q1, .inl (g.2 0, 76, .inl rw80))] ++ (dW pAll ad1 ct79 ++ dW pAll ad2 (cNew g))) H := hP
  have hD : va_D A ([(q1, .inl (g.2 0, 76, .inl rw80))] ++ (dW pAll ad1 ct79 ++ dW pAll ad2 (cNew g))) := hD
  refine W.eq (g2 := F0 m 401 ls [.int r78]) rfl ?_
  have hrn := twN_rg (L := L) (xs := xs)
  rw [← hr78] at hrn
  refine lv_istore (lv' := [(4, .int r78), (3, .ref q1), (2, .ref (ad2 0)), (1, .ref (ad1 0)), (0, .ref b)]) hx hb dL_law_401 hl (by decide) rfl (fun ls hl => ?_)
  refine lv_iload hx hb dL_law_403 (lv_at hl 0 rfl) ?_
  refine lv_if_le (tgt := 423) hx hb dL_law_405 (by decide) (fun c85 => ?_) (fun c85 => ?_)
  · skip
    have c85 : r78.toInt ≤ 0 := (z_le rfl (by decide : (0 : Int32).toInt = 0)).mp c85
    exfalso
    omega
  · skip
    have c85 : ¬ (r78.toInt ≤ 0) := fun q => c85 ((z_le rfl (by decide : (0 : Int32).toInt = 0)).mpr q)
    refine lv_aload_n hx hb dL_law_408 rfl (lv_at hl 2 rfl) ?_
    refine lv_aload_n hx hb dL_law_409 rfl (lv_at hl 4 rfl) ?_
    refine lv_aload_n hx hb dL_law_410 rfl (lv_at hl 1 rfl) ?_
    have hPs : zP g (([(q1, .inl (g.2 0, 76, .inl rw80))] ++ (dW pAll ad2 (cNew g) ++ [])) ++ dW pAll ad1 ct79) H := zP_perm pm_t2 hP
    have hDs : va_D A (([(q1, .inl (g.2 0, 76, .inl rw80))] ++ (dW pAll ad2 (cNew g) ++ [])) ++ dW pAll ad1 ct79) := zD_perm pm_t2 hD
    have hPc := zP_l hPs
    have hDc := zD_l hDs
    have hFc : ∀ q, va_A ([(q1, .inl (g.2 0, 76, .inl rw80))] ++ (dW pAll ad2 (cNew g) ++ [])) H.size q → A q := fun q h => by
      rcases h with ⟨k, e, h⟩ | h
      · exact hDc.2 k _ h
      · exact hA q (Nat.le_trans hS.1 h)
    refine va_calli (va_runS (As := [.ref (ad2 0), .ref b, .ref q1]) (rest := []) ⟨hx, hb, hml, hown, hg⟩ (c_town l g H.size L xs hL b q1 ad2 (cNew g) rw80 C0_I C0_0 C0_3) (va_cwS 3 hg (z_gS mm_540 mm_541 mm_51 mm_542) rfl rfl rfl (by decide +kernel) ⟨(Nat.le_of_ble_eq_true rfl), (Nat.le_of_ble_eq_true rfl)⟩) (zB.pre [.ref (ad2 0), .ref b, .ref q1] hPc hK hDc hN (vaX_at hX hbl hbA hS) (Nat.lt_of_lt_of_le hbl hS.1) (nb_at hFc hbA)) rfl rfl hl.1 rfl (lv_room (Nat.le_of_ble_eq_true rfl)) dL_law_411 ⟨(Nat.le_of_ble_eq_true rfl), (Nat.le_of_ble_eq_true rfl)⟩) hS (fun q _ h => hFc q h) hFc (fun r86 u t H1 locs ht hvm hr86 hB hz1 hk1 hS => ?_)
    obtain ⟨ct87, rw88, hP1, hD1, hI89, hk90, hk91, hrel92⟩ := hB
    rw [ht] at hP1
    obtain ⟨hPn, hDn⟩ := z_two hPs hDs hk1 hFc hP1 hD1
    clear hP hD hPs hDs hPc hDc hP1 hD1
    have hP := zP_perm pm_t2.symm hPn
    have hD := zD_perm pm_t2.symm hDn
    clear hPn hDn hFc
    generalize H1 = H at hP hS ⊢
    refine W.widen (k := 357) (n := 8110) (Nat.le_of_ble_eq_true rfl) (Nat.le_of_ble_eq_true rfl) ?_
    have hP : zP g ([(q1, .inl (g.2 0, 76, .inl rw88))] ++ (dW pAll ad1 ct79 ++ dW pAll ad2 ct87)) H := hP
    have hD : va_D A ([(q1, .inl (g.2 0, 76, .inl rw88))] ++ (dW pAll ad1 ct79 ++ dW pAll ad2 ct87)) := hD
    refine W.eq (g2 := F0 m 414 ls [.int r86]) rfl ?_
    refine lv_iload hx hb dL_law_414 (lv_at hl 0 rfl) ?_
    refine lv_icmp_ne (tgt := 423) hx hb dL_law_416 (by decide) (fun c93 => ?_) (fun c93 => ?_)
    · skip
      have c93 : ¬ (r86.toInt = r78.toInt) := fun q => c93 ((z_eq rfl rfl).mpr q)
      exact absurd (congrArg Int32.toInt (hr86.trans hr78.symm)) c93
    · skip
      have c93 : r86.toInt = r78.toInt := (z_eq rfl rfl).mp c93
      refine lv_iconst (v := 1) hx hb dL_law_419 (by decide) ?_
      refine lv_goto (tgt := 424) hx hb dL_law_420 (by decide) ?_
      refine lv_istore (lv' := [(5, .int 1), (4, .int r78), (3, .ref q1), (2, .ref (ad2 0)), (1, .ref (ad1 0)), (0, .ref b)]) hx hb dL_law_424 hl (by decide) rfl (fun ls hl => ?_)
      refine lv_aload_n hx hb dL_law_426 rfl (lv_at hl 4 rfl) ?_
      refine lv_ldc hx hb hown (hg _ mm_915) dL_law_427 ?_
      refine lv_iconst (v := 0) hx hb dL_law_429 (by decide) ?_
      refine lv_iconst (v := 0) hx hb dL_law_430 (by decide) ?_
      refine lv_iconst (v := 0) hx hb dL_law_431 (by decide) ?_
      refine lv_iconst (v := 0) hx hb dL_law_432 (by decide) ?_
      obtain ⟨_, _, -, -, -, hs96⟩ := a8_0 hI81
      refine LCV (n := 5) (As := [.int 16909060, .int 0, .int 0, .int 0, .int 0]) (rest := []) (E := [(q1, .inl (g.2 0, 76, .inl rw88))]) (F := dW pAll ad2 ct87) (fx_feed l g 7 ct79 (16909060 : Int32) (0 : Int32) (0 : Int32) (0 : Int32) (0 : Int32)  hI81 (by first | omega | assumption | decide)) sub_pCl_pAll rfl rfl hP hD hS hA hx hb hml hown hg hK hN ⟨by decide, rfl⟩ hs96 mm_343 mm_344 mm_345 mm_52 mm_346 (by decide +kernel) ⟨(Nat.le_of_ble_eq_true rfl), (Nat.le_of_ble_eq_true rfl)⟩ rfl (Nat.le_of_ble_eq_true rfl) dL_law_433 (Nat.le_of_ble_eq_true rfl) (Nat.le_of_ble_eq_true rfl) hl.1 rfl (fun ct94 rrr95 hB hoff97 H locs hP hD hS => ?_)
      obtain ⟨r95, rfl, hr95, hI102, hk98, hk99, hk100, hk101⟩ := hB
      refine W.eq (g2 := F0 m 436 ls [.int r95]) rfl ?_
      have hrel103 : ∀ q, ¬ dIn pM q → ct94 q = (w_fdx l g 7 (TWN l g L xs (cNew g)) (16909060 : Int32) (0 : Int32) (0 : Int32) (0 : Int32) (0 : Int32)).1 q := fun q hq => by rw [hk98 q hq, w_fdx_c hrel84]
      have hk104 : (zf 12 (ct94 0)).toInt = 1 := by rw [hk101]; exact hk82
      have hk105 : ∀ j : Nat, (j : Int) < (4 : Int32).toInt → (zar (ct94 4) j).toInt = ((j + 1 : Nat) : Int) := fun j hj => by
        have h4 : (4 : Int32).toInt = 4 := by decide
        rw [hk100]
        exact (congrArg Int32.toInt (fd5_j (by omega))).trans (bm_2 j (by omega))
      refine lv_pop hx hb dL_law_436 rfl ?_
      refine lv_aload_n hx hb dL_law_437 rfl (lv_at hl 3 rfl) ?_
      refine lv_ldc hx hb hown (hg _ mm_915) dL_law_438 ?_
      refine lv_iconst (v := 0) hx hb dL_law_440 (by decide) ?_
      refine lv_iconst (v := 0) hx hb dL_law_441 (by decide) ?_
      refine lv_iconst (v := 0) hx hb dL_law_442 (by decide) ?_
      refine lv_iconst (v := 0) hx hb dL_law_443 (by decide) ?_
      have hP := zP_perm pm_2 hP
      have hD := zD_perm pm_2 hD
      obtain ⟨_, _, -, -, -, hs108⟩ := a8_0 hI89
      refine LCV (n := 5) (As := [.int 16909060, .int 0, .int 0, .int 0, .int 0]) (rest := []) (E := ([(q1, .inl (g.2 0, 76, .inl rw88))] ++ dW pAll ad1 ct94)) (F := []) (fx_feed l g 7 ct87 (16909060 : Int32) (0 : Int32) (0 : Int32) (0 : Int32) (0 : Int32)  hI89 (by first | omega | assumption | decide)) sub_pCl_pAll rfl rfl hP hD hS hA hx hb hml hown hg hK hN ⟨by decide, rfl⟩ hs108 mm_343 mm_344 mm_345 mm_52 mm_346 (by decide +kernel) ⟨(Nat.le_of_ble_eq_true rfl), (Nat.le_of_ble_eq_true rfl)⟩ rfl (Nat.le_of_ble_eq_true rfl) dL_law_444 (Nat.le_of_ble_eq_true rfl) (Nat.le_of_ble_eq_true rfl) hl.1 rfl (fun ct106 rrr107 hB hoff109 H locs hP hD hS => ?_)
      have hP := zP_perm pm_2.symm hP
      have hD := zD_perm pm_2.symm hD
      obtain ⟨r107, rfl, hr107, hI114, hk110, hk111, hk112, hk113⟩ := hB
      refine W.eq (g2 := F0 m 447 ls [.int r107]) rfl ?_
      have hrel115 : ∀ q, ¬ dIn pM q → ct106 q = (w_fdx l g 7 (TWN l g L xs (cNew g)) (16909060 : Int32) (0 : Int32) (0 : Int32) (0 : Int32) (0 : Int32)).1 q := fun q hq => by rw [hk110 q hq, w_fdx_c hrel92]
      have hk116 : (zf 12 (ct106 0)).toInt = 1 := by rw [hk113]; exact hk90
      have hk117 : ∀ j : Nat, (j : Int) < (4 : Int32).toInt → (zar (ct106 4) j).toInt = ((j + 1 : Nat) : Int) := fun j hj => by
        have h4 : (4 : Int32).toInt = 4 := by decide
        rw [hk112]
        exact (congrArg Int32.toInt (fd5_j (by omega))).trans (bm_2 j (by omega))
      refine lv_pop hx hb dL_law_447 rfl ?_
      refine lv_iload hx hb dL_law_448 (lv_at hl 0 rfl) ?_
      refine lv_if_eq (tgt := 483) hx hb dL_law_450 (by decide) (fun c118 => ?_) (fun c118 => ?_)
      · skip
        exact absurd c118 (by decide)
      · skip
        refine lv_aload_n hx hb dL_law_453 rfl (lv_at hl 4 rfl) ?_
        refine lv_iconst (v := 4) hx hb dL_law_454 (by decide) ?_
        refine lv_iconst (v := 1) hx hb dL_law_455 (by decide) ?_
        refine lv_iconst (v := 2) hx hb dL_law_456 (by decide) ?_
        refine lv_iconst (v := 1) hx hb dL_law_457 (by decide) ?_
        refine lv_iconst (v := 2) hx hb dL_law_458 (by decide) ?_
        obtain ⟨_, _, -, -, -, hs121⟩ := a8_0 hI102
        refine LCV (n := 5) (As := [.int 4, .int 1, .int 2, .int 1, .int 2]) (rest := []) (E := [(q1, .inl (g.2 0, 76, .inl rw88))]) (F := dW pAll ad2 ct106) (fx_book l g 7 ct94 (4 : Int32) (1 : Int32) (2 : Int32) (1 : Int32) (2 : Int32) (by first | omega | decide) (by first | omega | decide) (by first | omega | decide) (by first | omega | decide) (by first | omega | decide) hI102 (hk99) (fun j hj => by rw [hk105 j hj]; have h7 : (7 : Int32).toInt = 7 := (by decide); have h4 : (4 : Int32).toInt = 4 := (by decide); omega) (fun i j hij hj => by rw [hk105 j hj, hk105 i (by omega)]; omega) (by rw [hk104]; decide)) sub_pCl_pAll rfl rfl hP hD hS hA hx hb hml hown hg hK hN ⟨by decide, rfl⟩ hs121 mm_351 mm_352 mm_353 mm_52 mm_354 (by decide +kernel) ⟨(Nat.le_of_ble_eq_true rfl), (Nat.le_of_ble_eq_true rfl)⟩ rfl (Nat.le_of_ble_eq_true rfl) dL_law_459 (Nat.le_of_ble_eq_true rfl) (Nat.le_of_ble_eq_true rfl) hl.1 rfl (fun ct119 rrr120 hB hoff122 H locs hP hD hS => ?_)
        obtain ⟨r120, rfl, hr120, hI126, hk123, hk124, hk125⟩ := hB
        refine W.eq (g2 := F0 m 462 ls [.int r120]) rfl ?_
        have hrel127 : ∀ q, ¬ dIn pM q → ct119 q = (w_bx l g 7 (w_fdx l g 7 (TWN l g L xs (cNew g)) (16909060 : Int32) (0 : Int32) (0 : Int32) (0 : Int32) (0 : Int32)).1 (4 : Int32) (1 : Int32) (2 : Int32) (1 : Int32) (2 : Int32)).1 q := fun q hq => by rw [hk123 q hq, w_bx_c hrel103]
        have hrb : r120.toInt = 1 := hr120.trans hk104
        have h128 := hr120
        have h128 : r120.toInt = (zf 12 (ct94 0)).toInt := h128
        refine lv_iconst (v := 1) hx hb dL_law_462 (by decide) ?_
        refine lv_icmp_ne (tgt := 483) hx hb dL_law_463 (by decide) (fun c129 => ?_) (fun c129 => ?_)
        · skip
          have c129 : ¬ (r120.toInt = 1) := fun q => c129 ((z_eq rfl (by decide : (1 : Int32).toInt = 1)).mpr q)
          have h1 : (1 : Int32).toInt = 1 := (by decide)
          exfalso
          omega
        · skip
          have c129 : r120.toInt = 1 := (z_eq rfl (by decide : (1 : Int32).toInt = 1)).mp c129
          refine lv_aload_n hx hb dL_law_466 rfl (lv_at hl 3 rfl) ?_
          refine lv_iconst (v := 4) hx hb dL_law_467 (by decide) ?_
          refine lv_iconst (v := 1) hx hb dL_law_468 (by decide) ?_
          refine lv_iconst (v := 2) hx hb dL_law_469 (by decide) ?_
          refine lv_iconst (v := 1) hx hb dL_law_470 (by decide) ?_
          refine lv_iconst (v := 2) hx hb dL_law_471 (by decide) ?_
          have hP := zP_perm pm_2 hP
          have hD := zD_perm pm_2 hD
          obtain ⟨_, _, -, -, -, hs132⟩ := a8_0 hI114
          refine LCV (n := 5) (As := [.int 4, .int 1, .int 2, .int 1, .int 2]) (rest := []) (E := ([(q1, .inl (g.2 0, 76, .inl rw88))] ++ dW pAll ad1 ct119)) (F := []) (fx_book l g 7 ct106 (4 : Int32) (1 : Int32) (2 : Int32) (1 : Int32) (2 : Int32) (by first | omega | decide) (by first | omega | decide) (by first | omega | decide) (by first | omega | decide) (by first | omega | decide) hI114 (hk111) (fun j hj => by rw [hk117 j hj]; have h7 : (7 : Int32).toInt = 7 := (by decide); have h4 : (4 : Int32).toInt = 4 := (by decide); omega) (fun i j hij hj => by rw [hk117 j hj, hk117 i (by omega)]; omega) (by rw [hk116]; decide)) sub_pCl_pAll rfl rfl hP hD hS hA hx hb hml hown hg hK hN ⟨by decide, rfl⟩ hs132 mm_351 mm_352 mm_353 mm_52 mm_354 (by decide +kernel) ⟨(Nat.le_of_ble_eq_true rfl), (Nat.le_of_ble_eq_true rfl)⟩ rfl (Nat.le_of_ble_eq_true rfl) dL_law_472 (Nat.le_of_ble_eq_true rfl) (Nat.le_of_ble_eq_true rfl) hl.1 rfl (fun ct130 rrr131 hB hoff133 H locs hP hD hS => ?_)
          have hP := zP_perm pm_2.symm hP
          have hD := zD_perm pm_2.symm hD
          obtain ⟨r131, rfl, hr131, hI137, hk134, hk135, hk136⟩ := hB
          refine W.eq (g2 := F0 m 475 ls [.int r131]) rfl ?_
          have hrel138 : ∀ q, ¬ dIn pM q → ct130 q = (w_bx l g 7 (w_fdx l g 7 (TWN l g L xs (cNew g)) (16909060 : Int32) (0 : Int32) (0 : Int32) (0 : Int32) (0 : Int32)).1 (4 : Int32) (1 : Int32) (2 : Int32) (1 : Int32) (2 : Int32)).1 q := fun q hq => by rw [hk134 q hq, w_bx_c hrel115]
          have hrb : r131.toInt = 1 := hr131.trans hk116
          have h139 := hr131
          have h139 : r131.toInt = (zf 12 (ct106 0)).toInt := h139
          refine lv_iconst (v := 1) hx hb dL_law_475 (by decide) ?_
          refine lv_icmp_ne (tgt := 483) hx hb dL_law_476 (by decide) (fun c140 => ?_) (fun c140 => ?_)
          · skip
            have c140 : ¬ (r131.toInt = 1) := fun q => c140 ((z_eq rfl (by decide : (1 : Int32).toInt = 1)).mpr q)
            have h1 : (1 : Int32).toInt = 1 := (by decide)
            exfalso
            omega
          · skip
            have c140 : r131.toInt = 1 := (z_eq rfl (by decide : (1 : Int32).toInt = 1)).mp c140
            refine lv_iconst (v := 1) hx hb dL_law_479 (by decide) ?_
            refine lv_goto (tgt := 484) hx hb dL_law_480 (by decide) ?_
            refine lv_istore (lv' := [(5, .int 1), (4, .int r78), (3, .ref q1), (2, .ref (ad2 0)), (1, .ref (ad1 0)), (0, .ref b)]) hx hb dL_law_484 hl (by decide) rfl (fun ls hl => ?_)
            refine lv_bipush (v := 9) hx hb dL_law_486 (by decide) ?_
            refine lv_istore (lv' := [(6, .int 9), (5, .int 1), (4, .int r78), (3, .ref q1), (2, .ref (ad2 0)), (1, .ref (ad1 0)), (0, .ref b)]) hx hb dL_law_488 hl (by decide) rfl (fun ls hl => ?_)
            have loop490 : ∀ (n490 : Nat) (v6_490 : Int32) (ad0_490 : Nat → Nat) (ad1_490 : Nat → Nat) (ct0_490 : Nat → va_E) (ct1_490 : Nat → va_E) (H : Heap) (locs : List Loc) (ls : Array Slot), ((26 - v6_490.toInt : Int).toNat < n490) → (9 ≤ v6_490.toInt ∧ v6_490.toInt ≤ 26) → (Inv8 g idn 7 ct0_490) → (ad0_490 0 = (ad1 0)) → (Inv8 g idn 7 ct1_490) → (ad1_490 0 = (ad2 0)) → (∀ q, ¬ dIn pM q → ct1_490 q = ct0_490 q) → zP g ([(q1, .inl (g.2 0, 76, .inl rw88))] ++ (dW pAll ad0_490 ct0_490 ++ dW pAll ad1_490 ct1_490)) H → va_D A ([(q1, .inl (g.2 0, 76, .inl rw88))] ++ (dW pAll ad0_490 ct0_490 ++ dW pAll ad1_490 ct1_490)) → va_S A s.heap H locs → lv_has ls 13 [(6, .int v6_490), (5, .int 1), (3, .ref q1), (2, .ref (ad2 0)), (1, .ref (ad1 0)), (0, .ref b)] → W p l e room_1 s m #[Value.ref b] below meth c H locs (400 + (v6_490.toInt.toNat - 9)) (9000 + 131072 * (v6_490.toInt.toNat - 9)) (lw_Z below #[Value.ref b] s) (F0 m 490 ls []) := by
              intro n490
              induction n490 with
              | zero =>
                intro v6_490 ad0_490 ad1_490 ct0_490 ct1_490 H locs ls hn490 b6_490 hI0_490 hx0_490 hI1_490 hx1_490 hp_490 hP hD hS hl
                exact absurd hn490 (Nat.not_lt_zero _)
              | succ n490 ih490 =>
                intro v6_490 ad0_490 ad1_490 ct0_490 ct1_490 H locs ls hn490 b6_490 hI0_490 hx0_490 hI1_490 hx1_490 hp_490 hP hD hS hl
                refine lv_iload hx hb dL_law_490 (lv_at hl 0 rfl) ?_
                refine lv_iconst (v := 1) hx hb dL_law_492 (by decide) ?_
                refine lv_iadd hx hb dL_law_493 ?_
                refine lv_topi (fun x141 ex141 => ?_)
                have tx141 : x141.toInt = v6_490.toInt + 1 := by rw [ex141]; exact z_add rfl (by decide : (1 : Int32).toInt = 1) (by omega) (by omega)
                refine lv_aload_n hx hb dL_law_494 rfl (lv_at hl 5 rfl) ?_
                refine va_slen hx hb hX hbl hbA hS dL_law_495 ?_
                refine lv_icmp_ge (tgt := 799) hx hb dL_law_496 (by decide) (fun c142 => ?_) (fun c142 => ?_)
                · skip
                  have c142 : ((L : Nat) : Int) ≤ x141.toInt := (z_le (nI_toInt (n := L) (by omega)) rfl).mp c142
                  refine lv_iload hx hb dL_law_799 (lv_at hl 1 rfl) ?_
                  refine va_forget (fun q hq => hA' _ (hS.2.2 q hq)) ?_
                  refine W.widen (k := 600000) (n := 7302250) (by omega) (by omega) ?_
                  exact lw_ret hx hb hr hlocks dL_law_801
                · skip
                  have c142 : ¬ (((L : Nat) : Int) ≤ x141.toInt) := fun q => c142 ((z_le (nI_toInt (n := L) (by omega)) rfl).mpr q)
                  refine lv_iload hx hb dL_law_499 (lv_at hl 0 rfl) ?_
                  refine lv_bipush (v := 25) hx hb dL_law_501 (by decide) ?_
                  refine lv_icmp_ge (tgt := 799) hx hb dL_law_503 (by decide) (fun c143 => ?_) (fun c143 => ?_)
                  · skip
                    have c143 : 25 ≤ v6_490.toInt := (z_le (by decide : (25 : Int32).toInt = 25) rfl).mp c143
                    refine lv_iload hx hb dL_law_799 (lv_at hl 1 rfl) ?_
                    refine va_forget (fun q hq => hA' _ (hS.2.2 q hq)) ?_
                    refine W.widen (k := 600000) (n := 7302250) (by omega) (by omega) ?_
                    exact lw_ret hx hb hr hlocks dL_law_801
                  · skip
                    have c143 : ¬ (25 ≤ v6_490.toInt) := fun q => c143 ((z_le (by decide : (25 : Int32).toInt = 25) rfl).mpr q)
                    refine lv_iload hx hb dL_law_506 (lv_at hl 1 rfl) ?_
                    refine lv_if_eq (tgt := 581) hx hb dL_law_508 (by decide) (fun c144 => ?_) (fun c144 => ?_)
                    · skip
                      exact absurd c144 (by decide)
                    · skip
                      have hj534 : ∀ (ct0_534 : Nat → va_E) (ct1_534 : Nat → va_E) (H : Heap) (locs : List Loc) (ls : Array Slot), (Inv8 g idn 7 ct0_534) → (∀ q, ¬ dIn pM q → ct0_534 q = ct0_490 q) → (Inv8 g idn 7 ct1_534) → (∀ q, ¬ dIn pM q → ct1_534 q = ct0_490 q) → zP g ([(q1, .inl (g.2 0, 76, .inl rw88))] ++ (dW pAll ad0_490 ct0_534 ++ dW pAll ad1_490 ct1_534)) H → va_D A ([(q1, .inl (g.2 0, 76, .inl rw88))] ++ (dW pAll ad0_490 ct0_534 ++ dW pAll ad1_490 ct1_534)) → va_S A s.heap H locs → lv_has ls 13 [(6, .int v6_490), (5, .int 1), (3, .ref q1), (2, .ref (ad2 0)), (1, .ref (ad1 0)), (0, .ref b)] → W p l e room_1 s m #[Value.ref b] below meth c H locs (400 + (v6_490.toInt.toNat - 9)) (9000 + 131072 * (v6_490.toInt.toNat - 9)) (lw_Z below #[Value.ref b] s) (F0 m 534 ls []) := by
                        intro ct0_534 ct1_534 H locs ls hI0_534 hr0_534 hI1_534 hr1_534 hP hD hS hl
                        refine lv_aload_n hx hb dL_law_534 rfl (lv_at hl 4 rfl) ?_
                        refine lv_aload_n hx hb dL_law_535 rfl (lv_at hl 5 rfl) ?_
                        refine lv_iload hx hb dL_law_536 (lv_at hl 0 rfl) ?_
                        refine va_sld hx hb hX hbl hbA hS (z_in rfl (by omega) (by omega)) dL_law_538 ?_
                        refine lv_topi (fun y145 ey145 => ?_)
                        refine lv_iconst (v := 1) hx hb dL_law_539 (by decide) ?_
                        refine lv_ishr hx hb dL_law_540 ?_
                        refine lv_topi (fun x146 ex146 => ?_)
                        refine lv_aload_n hx hb dL_law_541 rfl (lv_at hl 5 rfl) ?_
                        refine lv_iload hx hb dL_law_542 (lv_at hl 0 rfl) ?_
                        refine lv_iconst (v := 1) hx hb dL_law_544 (by decide) ?_
                        refine lv_iadd hx hb dL_law_545 ?_
                        rw [← ex141]
                        refine va_sld hx hb hX hbl hbA hS (z_in rfl (by omega) (by omega)) dL_law_546 ?_
                        refine lv_topi (fun y147 ey147 => ?_)
                        refine LCSA (n := 3) (As := [.ref 0, .int x146, .int y147]) (rest := []) (E := [(q1, .inl (g.2 0, 76, .inl rw88))]) (F := dW pAll ad1_490 ct1_534) (f_act l g 7 ct0_534 x146 y147  hI0_534 ) hP hD hS hA hx hb hml hown hg hK hN mm_641 mm_642 mm_51 mm_643 (by decide +kernel) ⟨(Nat.le_of_ble_eq_true rfl), (Nat.le_of_ble_eq_true rfl)⟩ rfl (Nat.le_of_ble_eq_true rfl) dL_law_547 (show (400 + (v6_490.toInt.toNat - 9)) + 1 ≤ 600000 by omega) (show (9000 + 131072 * (v6_490.toInt.toNat - 9)) + 131072 ≤ 7302250 by omega) hl.1 (by first | (rw [hx0_490]; rfl) | (rw [← hx0_490]; rfl)) (fun ct148 rrr149 ad150 hB had151 H locs hP hD hS => ?_)
                        obtain ⟨r149, rfl, hr149, hI153, hk152⟩ := hB
                        have hx154 : ad150 0 = (ad1 0) := (had151 0 (by decide)).trans hx0_490
                        refine W.eq (g2 := F0 m 550 ls [.int r149]) rfl ?_
                        have hrel155 : ∀ q, ¬ dIn pM q → ct148 q = (actW l g 7 ct0_490 x146 y147) q := fun q hq => (hk152 q hq).trans (actW_c hr0_534 q hq)
                        obtain ⟨hr149, -⟩ := hr149
                        have hv156 : r149 = actR l g 7 ct0_490 x146 y147 := hr149.trans (actR_o hr0_534 (gix_rg hI0_490))
                        refine lv_aload_n hx hb dL_law_550 rfl (lv_at hl 3 rfl) ?_
                        refine lv_aload_n hx hb dL_law_551 rfl (lv_at hl 5 rfl) ?_
                        refine lv_iload hx hb dL_law_552 (lv_at hl 0 rfl) ?_
                        refine va_sld hx hb hX hbl hbA hS (z_in rfl (by omega) (by omega)) dL_law_554 ?_
                        rw [← ey145]
                        refine lv_iconst (v := 1) hx hb dL_law_555 (by decide) ?_
                        refine lv_ishr hx hb dL_law_556 ?_
                        rw [← ex146]
                        refine lv_aload_n hx hb dL_law_557 rfl (lv_at hl 5 rfl) ?_
                        refine lv_iload hx hb dL_law_558 (lv_at hl 0 rfl) ?_
                        refine lv_iconst (v := 1) hx hb dL_law_560 (by decide) ?_
                        refine lv_iadd hx hb dL_law_561 ?_
                        rw [← ex141]
                        refine va_sld hx hb hX hbl hbA hS (z_in rfl (by omega) (by omega)) dL_law_562 ?_
                        rw [← ey147]
                        have hP := zP_perm pm_2 hP
                        have hD := zD_perm pm_2 hD
                        refine LCSA (n := 3) (As := [.ref 0, .int x146, .int y147]) (rest := [.int r149]) (E := ([(q1, .inl (g.2 0, 76, .inl rw88))] ++ dW pAll ad150 ct148)) (F := []) (f_act l g 7 ct1_534 x146 y147  hI1_534 ) hP hD hS hA hx hb hml hown hg hK hN mm_641 mm_642 mm_51 mm_643 (by decide +kernel) ⟨(Nat.le_of_ble_eq_true rfl), (Nat.le_of_ble_eq_true rfl)⟩ rfl (Nat.le_of_ble_eq_true rfl) dL_law_563 (show ((400 + (v6_490.toInt.toNat - 9)) + 1) + 1 ≤ 600000 by omega) (show ((9000 + 131072 * (v6_490.toInt.toNat - 9)) + 131072) + 131072 ≤ 7302250 by omega) hl.1 (by first | (rw [hx1_490]; rfl) | (rw [← hx1_490]; rfl)) (fun ct157 rrr158 ad159 hB had160 H locs hP hD hS => ?_)
                        have hP := zP_perm pm_2.symm hP
                        have hD := zD_perm pm_2.symm hD
                        obtain ⟨r158, rfl, hr158, hI162, hk161⟩ := hB
                        have hx163 : ad159 0 = (ad2 0) := (had160 0 (by decide)).trans hx1_490
                        refine W.eq (g2 := F0 m 566 ls [.int r158, .int r149]) rfl ?_
                        have hrel164 : ∀ q, ¬ dIn pM q → ct157 q = (actW l g 7 ct0_490 x146 y147) q := fun q hq => (hk161 q hq).trans (actW_c hr1_534 q hq)
                        obtain ⟨hr158, -⟩ := hr158
                        have hv165 : r158 = actR l g 7 ct0_490 x146 y147 := hr158.trans (actR_o hr1_534 (gix_rg hI0_490))
                        refine lv_icmp_ne (tgt := 581) hx hb dL_law_566 (by decide) (fun c166 => ?_) (fun c166 => ?_)
                        · skip
                          have c166 : ¬ (r149.toInt = r158.toInt) := fun q => c166 ((z_eq rfl rfl).mpr q)
                          exact absurd (congrArg Int32.toInt (hv156.trans hv165.symm)) c166
                        · skip
                          have c166 : r149.toInt = r158.toInt := (z_eq rfl rfl).mp c166
                          refine lv_aload_n hx hb dL_law_569 rfl (lv_at hl 4 rfl) ?_
                          refine lv_aload_n hx hb dL_law_570 rfl (lv_at hl 3 rfl) ?_
                          have hPs : zP g (([] ++ (dW pAll ad150 ct148 ++ dW pAll ad159 ct157)) ++ [(q1, .inl (g.2 0, 76, .inl rw88))]) H := zP_perm pm_al hP
                          have hDs : va_D A (([] ++ (dW pAll ad150 ct148 ++ dW pAll ad159 ct157)) ++ [(q1, .inl (g.2 0, 76, .inl rw88))]) := zD_perm pm_al hD
                          have hPc := zP_l hPs
                          have hDc := zD_l hDs
                          have hFc : ∀ q, va_A ([] ++ (dW pAll ad150 ct148 ++ dW pAll ad159 ct157)) H.size q → A q := fun q h => by
                            rcases h with ⟨k, e, h⟩ | h
                            · exact hDc.2 k _ h
                            · exact hA q (Nat.le_trans hS.1 h)
                          refine va_calli (va_runS (As := [.ref (ad150 0), .ref (ad159 0)]) (rest := []) ⟨hx, hb, hml, hown, hg⟩ (c_alike l g H.size 7 ad150 ad159 ct148 ct157 hI153 hI162 (fun q hq => (hrel164 q hq).trans (hrel155 q hq).symm)) (va_cwS 2 hg (z_gS mm_908 mm_909 mm_51 mm_910) rfl rfl rfl (by decide +kernel) ⟨(Nat.le_of_ble_eq_true rfl), (Nat.le_of_ble_eq_true rfl)⟩) (zA.pre [.ref (ad150 0), .ref (ad159 0)] hPc hK hDc hN) rfl rfl hl.1 (by rw [hx154, hx163]; rfl) (lv_room (Nat.le_of_ble_eq_true rfl)) dL_law_571 ⟨(show (((400 + (v6_490.toInt.toNat - 9)) + 1) + 1) + 0 ≤ 600000 by omega), (show (((9000 + 131072 * (v6_490.toInt.toNat - 9)) + 131072) + 131072) + 0 ≤ 7302250 by omega)⟩) hS (fun q _ h => hFc q h) hFc (fun r167 u t H1 locs ht hvm hr167 hB hz1 hk1 hS => ?_)
                          obtain ⟨ct168, ct169, hP1, hD1, hI170, hI171, hq172, hq173⟩ := hB
                          rw [ht] at hP1
                          obtain ⟨hPn, hDn⟩ := z_two hPs hDs hk1 hFc hP1 hD1
                          clear hP hD hPs hDs hPc hDc hP1 hD1
                          have hP := zP_perm pm_al.symm hPn
                          have hD := zD_perm pm_al.symm hDn
                          clear hPn hDn hFc
                          obtain rfl := hr167
                          generalize H1 = H at hP hS ⊢
                          refine W.widen (k := (((400 + (v6_490.toInt.toNat - 9)) + 1) + 1)) (n := (((9000 + 131072 * (v6_490.toInt.toNat - 9)) + 131072) + 131072)) (Nat.le_refl _) (Nat.le_refl _) ?_
                          have hrel174 : ∀ q, ¬ dIn pM q → ct168 q = (actW l g 7 ct0_490 x146 y147) q := fun q hq => (hq172 q hq).trans (hrel155 q hq)
                          have hrel175 : ∀ q, ¬ dIn pM q → ct169 q = (actW l g 7 ct0_490 x146 y147) q := fun q hq => (hq173 q hq).trans (hrel155 q hq)
                          refine W.eq (g2 := F0 m 574 ls [.int 1]) rfl ?_
                          have hP : zP g ([(q1, .inl (g.2 0, 76, .inl rw88))] ++ (dW pAll ad150 ct168 ++ dW pAll ad159 ct169)) H := hP
                          have hD : va_D A ([(q1, .inl (g.2 0, 76, .inl rw88))] ++ (dW pAll ad150 ct168 ++ dW pAll ad159 ct169)) := hD
                          refine lv_if_eq (tgt := 581) hx hb dL_law_574 (by decide) (fun c176 => ?_) (fun c176 => ?_)
                          · skip
                            exact absurd c176 (by decide)
                          · skip
                            refine lv_iconst (v := 1) hx hb dL_law_577 (by decide) ?_
                            refine lv_goto (tgt := 582) hx hb dL_law_578 (by decide) ?_
                            refine lv_istore (lv' := [(5, .int 1), (6, .int v6_490), (3, .ref q1), (2, .ref (ad2 0)), (1, .ref (ad1 0)), (0, .ref b)]) hx hb dL_law_582 hl (by decide) rfl (fun ls hl => ?_)
                            refine lv_iconst (v := 0) hx hb dL_law_584 (by decide) ?_
                            refine lv_istore (lv' := [(7, .int 0), (5, .int 1), (6, .int v6_490), (3, .ref q1), (2, .ref (ad2 0)), (1, .ref (ad1 0)), (0, .ref b)]) hx hb dL_law_585 hl (by decide) rfl (fun ls hl => ?_)
                            have loop587 : ∀ (n587 : Nat) (v7_587 : Int32) (ct0_587 : Nat → va_E) (ct1_587 : Nat → va_E) (H : Heap) (locs : List Loc) (ls : Array Slot), ((2 - v7_587.toInt : Int).toNat < n587) → (0 ≤ v7_587.toInt ∧ v7_587.toInt ≤ 2) → (Inv8 g idn 7 ct0_587) → (Inv8 g idn 7 ct1_587) → (∀ q, ¬ dIn pM q → ct1_587 q = ct0_587 q) → zP g ([(q1, .inl (g.2 0, 76, .inl rw88))] ++ (dW pAll ad150 ct0_587 ++ dW pAll ad159 ct1_587)) H → va_D A ([(q1, .inl (g.2 0, 76, .inl rw88))] ++ (dW pAll ad150 ct0_587 ++ dW pAll ad159 ct1_587)) → va_S A s.heap H locs → lv_has ls 13 [(7, .int v7_587), (5, .int 1), (6, .int v6_490), (3, .ref q1), (2, .ref (ad2 0)), (1, .ref (ad1 0)), (0, .ref b)] → W p l e room_1 s m #[Value.ref b] below meth c H locs (((400 + (v6_490.toInt.toNat - 9)) + 1) + 1) (((9000 + 131072 * (v6_490.toInt.toNat - 9)) + 131072) + 131072) (lw_Z below #[Value.ref b] s) (F0 m 587 ls []) := by
                              intro n587
                              induction n587 with
                              | zero =>
                                intro v7_587 ct0_587 ct1_587 H locs ls hn587 b7_587 hI0_587 hI1_587 hp_587 hP hD hS hl
                                exact absurd hn587 (Nat.not_lt_zero _)
                              | succ n587 ih587 =>
                                intro v7_587 ct0_587 ct1_587 H locs ls hn587 b7_587 hI0_587 hI1_587 hp_587 hP hD hS hl
                                refine lv_iload hx hb dL_law_587 (lv_at hl 0 rfl) ?_
                                refine lv_iconst (v := 2) hx hb dL_law_589 (by decide) ?_
                                refine lv_icmp_ge (tgt := 793) hx hb dL_law_590 (by decide) (fun c177 => ?_) (fun c177 => ?_)
                                · skip
                                  have c177 : 2 ≤ v7_587.toInt := (z_le (by decide : (2 : Int32).toInt = 2) rfl).mp c177
                                  obtain ⟨x178, ex178⟩ : ∃ y : Int32, y = v6_490 + 2 := ⟨_, rfl⟩
                                  have tx178 : x178.toInt = v6_490.toInt + 2 := by rw [ex178]; exact z_add rfl (by decide : (2 : Int32).toInt = 2) (by omega) (by omega)
                                  refine lv_iinc (v := x178) (lv' := [(6, .int x178), (7, .int v7_587), (5, .int 1), (3, .ref q1), (2, .ref (ad2 0)), (1, .ref (ad1 0)), (0, .ref b)]) hx hb dL_law_793 hl (k := 2) rfl (by rw [ex178]; rfl) (by decide) rfl (fun ls hl => ?_)
                                  refine lv_goto (tgt := 490) hx hb dL_law_796 (by decide) ?_
                                  refine W.widen (k := (400 + (x178.toInt.toNat - 9))) (n := (9000 + 131072 * (x178.toInt.toNat - 9))) (by first | omega | decide) (by first | omega | decide) ?_
                                  exact ih490 x178 ad150 ad159 ct0_587 ct1_587 _ _ ls (by omega) (by first | omega | decide) hI0_587 hx154 hI1_587 hx163 (fun q hq => (hp_587 q hq).trans ((fun _ _ => rfl) q hq).symm) hP hD hS (lv_sub hl [0, 2, 3, 4, 5, 6] rfl)
                                · skip
                                  have c177 : ¬ (2 ≤ v7_587.toInt) := fun q => c177 ((z_le (by decide : (2 : Int32).toInt = 2) rfl).mpr q)
                                  refine lv_aload_n hx hb dL_law_593 rfl (lv_at hl 5 rfl) ?_
                                  refine lv_iload hx hb dL_law_594 (lv_at hl 0 rfl) ?_
                                  refine lv_iconst (v := 1) hx hb dL_law_596 (by decide) ?_
                                  obtain ⟨_, _, -, -, -, hs181⟩ := a8_0 hI0_587
                                  refine LCV (n := 2) (As := [.int v7_587, .int 1]) (rest := []) (E := [(q1, .inl (g.2 0, 76, .inl rw88))]) (F := dW pAll ad159 ct1_587) (f_givings l g 7 ct0_587 v7_587 (1 : Int32)  hI0_587 ) (fun _ h => h) rfl rfl hP hD hS hA hx hb hml hown hg hK hN ⟨by decide, rfl⟩ hs181 mm_473 mm_474 mm_475 mm_52 mm_476 (by decide +kernel) ⟨(Nat.le_of_ble_eq_true rfl), (Nat.le_of_ble_eq_true rfl)⟩ rfl (Nat.le_of_ble_eq_true rfl) dL_law_597 (show (((400 + (v6_490.toInt.toNat - 9)) + 1) + 1) ≤ 600000 by omega) (show (((9000 + 131072 * (v6_490.toInt.toNat - 9)) + 131072) + 131072) ≤ 7302250 by omega) hl.1 (by first | (rw [hx154]; rfl) | (rw [← hx154]; rfl)) (fun ct179 rrr180 hB hoff182 H locs hP hD hS => ?_)
                                  obtain ⟨r180, rfl, hr180, hI184, hcf183⟩ := hB
                                  have hrel185 : ∀ q, ¬ dIn pM q → ct179 q = ct0_587 q := fun q hq => (hcf183 q hq).trans ((fun _ _ => rfl) q hq)
                                  refine W.eq (g2 := F0 m 600 ls [.long r180]) rfl ?_
                                  obtain ⟨hr180, -⟩ := hr180
                                  have hv186 : r180 = qGiv l g 7 ct0_587 v7_587 (1 : Int32) := hr180.trans (qGiv_o (fun _ _ => rfl) (gix_rg hI0_587))
                                  refine lv_lconst (v := 0) hx hb dL_law_600 (by decide) ?_
                                  refine W.lcmp hx hb dL_law_601 ?_
                                  refine lv_topi (fun x187 ex187 => ?_)
                                  refine lv_if_le (tgt := 609) hx hb dL_law_602 (by decide) (fun c188 => ?_) (fun c188 => ?_)
                                  · skip
                                    rw [ex187] at c188
                                    have hsome : ¬ 0 < (qGiv l g 7 ct0_587 v7_587 1).toInt := by
                                      have h := Int64.le_iff_toInt_le.mp ((lg_cmp_le _ _).mp c188)
                                      rw [hv186] at h
                                      have h0 : (0 : Int64).toInt = 0 := by decide
                                      omega
                                    refine lv_iconst (v := 0) hx hb dL_law_609 (by decide) ?_
                                    refine lv_istore (lv' := [(8, .int 0), (7, .int v7_587), (5, .int 1), (6, .int v6_490), (3, .ref q1), (2, .ref (ad2 0)), (1, .ref (ad1 0)), (0, .ref b)]) hx hb dL_law_610 hl (by decide) rfl (fun ls hl => ?_)
                                    refine lv_aload_n hx hb dL_law_612 rfl (lv_at hl 6 rfl) ?_
                                    refine lv_iload hx hb dL_law_613 (lv_at hl 1 rfl) ?_
                                    refine lv_iconst (v := 1) hx hb dL_law_615 (by decide) ?_
                                    refine lv_bipush (v := 8) hx hb dL_law_616 (by decide) ?_
                                    obtain ⟨_, _, -, -, -, hs191⟩ := a8_0 hI184
                                    refine LCV (n := 3) (As := [.int v7_587, .int 1, .int 8]) (rest := []) (E := [(q1, .inl (g.2 0, 76, .inl rw88))]) (F := dW pAll ad159 ct1_587) (f_steps l g 7 ct179 v7_587 (1 : Int32) (8 : Int32)  hI184 ) (fun _ h => h) rfl rfl hP hD hS hA hx hb hml hown hg hK hN ⟨by decide, rfl⟩ hs191 mm_509 mm_510 mm_511 mm_52 mm_512 (by decide +kernel) ⟨(Nat.le_of_ble_eq_true rfl), (Nat.le_of_ble_eq_true rfl)⟩ rfl (Nat.le_of_ble_eq_true rfl) dL_law_618 (show (((400 + (v6_490.toInt.toNat - 9)) + 1) + 1) ≤ 600000 by omega) (show (((9000 + 131072 * (v6_490.toInt.toNat - 9)) + 131072) + 131072) ≤ 7302250 by omega) hl.1 (by first | (rw [hx154]; rfl) | (rw [← hx154]; rfl)) (fun ct189 rrr190 hB hoff192 H locs hP hD hS => ?_)
                                    obtain ⟨r190, rfl, hr190, hI194, hcf193⟩ := hB
                                    have hrel195 : ∀ q, ¬ dIn pM q → ct189 q = ct0_587 q := fun q hq => (hcf193 q hq).trans (hrel185 q hq)
                                    refine W.eq (g2 := F0 m 621 ls [.int r190]) rfl ?_
                                    obtain ⟨hr190, -⟩ := hr190
                                    have hv196 : r190 = qStp l g 7 ct0_587 v7_587 (1 : Int32) (8 : Int32) := hr190.trans (qStp_o hrel185 (gix_rg hI0_587))
                                    refine lv_istore (lv' := [(9, .int r190), (8, .int 0), (7, .int v7_587), (5, .int 1), (6, .int v6_490), (3, .ref q1), (2, .ref (ad2 0)), (1, .ref (ad1 0)), (0, .ref b)]) hx hb dL_law_621 hl (by decide) rfl (fun ls hl => ?_)
                                    refine lv_iload hx hb dL_law_623 (lv_at hl 3 rfl) ?_
                                    refine lv_if_eq (tgt := 674) hx hb dL_law_625 (by decide) (fun c197 => ?_) (fun c197 => ?_)
                                    · skip
                                      exact absurd c197 (by decide)
                                    · skip
                                      refine lv_aload_n hx hb dL_law_628 rfl (lv_at hl 7 rfl) ?_
                                      refine lv_iload hx hb dL_law_629 (lv_at hl 2 rfl) ?_
                                      refine lv_iconst (v := 1) hx hb dL_law_631 (by decide) ?_
                                      obtain ⟨_, _, -, -, -, hs200⟩ := a8_0 hI194
                                      refine LCV (n := 2) (As := [.int v7_587, .int 1]) (rest := []) (E := [(q1, .inl (g.2 0, 76, .inl rw88))]) (F := dW pAll ad159 ct1_587) (f_tooFew l g 7 ct189 v7_587 (1 : Int32)  hI194 ) (fun _ h => h) rfl rfl hP hD hS hA hx hb hml hown hg hK hN ⟨by decide, rfl⟩ hs200 mm_505 mm_506 mm_507 mm_52 mm_508 (by decide +kernel) ⟨(Nat.le_of_ble_eq_true rfl), (Nat.le_of_ble_eq_true rfl)⟩ rfl (Nat.le_of_ble_eq_true rfl) dL_law_632 (show (((400 + (v6_490.toInt.toNat - 9)) + 1) + 1) ≤ 600000 by omega) (show (((9000 + 131072 * (v6_490.toInt.toNat - 9)) + 131072) + 131072) ≤ 7302250 by omega) hl.1 (by first | (rw [hx154]; rfl) | (rw [← hx154]; rfl)) (fun ct198 rrr199 hB hoff201 H locs hP hD hS => ?_)
                                      obtain ⟨r199, rfl, hr199, hI203, hcf202⟩ := hB
                                      have hrel204 : ∀ q, ¬ dIn pM q → ct198 q = ct0_587 q := fun q hq => (hcf202 q hq).trans (hrel195 q hq)
                                      refine W.eq (g2 := F0 m 635 ls [.int r199]) rfl ?_
                                      obtain ⟨hr199, -⟩ := hr199
                                      have hv205 : r199 = qFew l g 7 ct0_587 v7_587 (1 : Int32) := hr199.trans (qFew_o hrel195 (gix_rg hI0_587))
                                      have hfw := lq_few (l := l) hI0_587 (b := v7_587) (by omega)
                                      rw [← hv205] at hfw
                                      have hz635 : ¬ r199.toInt = 0 := fun q => hsome (hfw.mp q)
                                      refine lv_if_ne (tgt := 642) hx hb dL_law_635 (by decide) (fun c206 => ?_) (fun c206 => ?_)
                                      · skip
                                        have c206 : ¬ (r199.toInt = 0) := fun q => c206 ((z_eq rfl (by decide : (0 : Int32).toInt = 0)).mpr q)
                                        refine lv_iconst (v := 0) hx hb dL_law_642 (by decide) ?_
                                        refine lv_iload hx hb dL_law_643 (lv_at hl 1 rfl) ?_
                                        refine lv_icmp_ne (tgt := 674) hx hb dL_law_645 (by decide) (fun c207 => ?_) (fun c207 => ?_)
                                        · skip
                                          exact absurd c207 (by decide)
                                        · skip
                                          refine lv_aload_n hx hb dL_law_648 rfl (lv_at hl 7 rfl) ?_
                                          refine lv_iload hx hb dL_law_649 (lv_at hl 2 rfl) ?_
                                          refine lv_iconst (v := 2) hx hb dL_law_651 (by decide) ?_
                                          refine lv_iconst (v := 1) hx hb dL_law_652 (by decide) ?_
                                          obtain ⟨_, _, -, -, -, hs210⟩ := a8_0 hI203
                                          refine LCV (n := 3) (As := [.int v7_587, .int 2, .int 1]) (rest := []) (E := [(q1, .inl (g.2 0, 76, .inl rw88))]) (F := dW pAll ad159 ct1_587) (f_safe l g 7 ct198 v7_587 (2 : Int32) (1 : Int32)  hI203 ) (fun _ h => h) rfl rfl hP hD hS hA hx hb hml hown hg hK hN ⟨by decide, rfl⟩ hs210 mm_526 mm_527 mm_528 mm_52 mm_529 (by decide +kernel) ⟨(Nat.le_of_ble_eq_true rfl), (Nat.le_of_ble_eq_true rfl)⟩ rfl (Nat.le_of_ble_eq_true rfl) dL_law_653 (show (((400 + (v6_490.toInt.toNat - 9)) + 1) + 1) ≤ 600000 by omega) (show (((9000 + 131072 * (v6_490.toInt.toNat - 9)) + 131072) + 131072) ≤ 7302250 by omega) hl.1 (by first | (rw [hx154]; rfl) | (rw [← hx154]; rfl)) (fun ct208 rrr209 hB hoff211 H locs hP hD hS => ?_)
                                          obtain ⟨r209, rfl, hr209, hI213, hcf212⟩ := hB
                                          have hrel214 : ∀ q, ¬ dIn pM q → ct208 q = ct0_587 q := fun q hq => (hcf212 q hq).trans (hrel204 q hq)
                                          refine W.eq (g2 := F0 m 656 ls [.int r209]) rfl ?_
                                          obtain ⟨hr209, -⟩ := hr209
                                          have hv215 : r209 = qSafe l g 7 ct0_587 v7_587 (2 : Int32) (1 : Int32) := hr209.trans (qSafe_o hrel204 (gix_rg hI0_587))
                                          refine lv_aload_n hx hb dL_law_656 rfl (lv_at hl 7 rfl) ?_
                                          refine lv_iload hx hb dL_law_657 (lv_at hl 2 rfl) ?_
                                          refine lv_iconst (v := 1) hx hb dL_law_659 (by decide) ?_
                                          refine lv_iconst (v := 1) hx hb dL_law_660 (by decide) ?_
                                          obtain ⟨_, _, -, -, -, hs218⟩ := a8_0 hI213
                                          refine LCV (n := 3) (As := [.int v7_587, .int 1, .int 1]) (rest := [.int r209]) (E := [(q1, .inl (g.2 0, 76, .inl rw88))]) (F := dW pAll ad159 ct1_587) (f_safe l g 7 ct208 v7_587 (1 : Int32) (1 : Int32)  hI213 ) (fun _ h => h) rfl rfl hP hD hS hA hx hb hml hown hg hK hN ⟨by decide, rfl⟩ hs218 mm_526 mm_527 mm_528 mm_52 mm_529 (by decide +kernel) ⟨(Nat.le_of_ble_eq_true rfl), (Nat.le_of_ble_eq_true rfl)⟩ rfl (Nat.le_of_ble_eq_true rfl) dL_law_661 (show (((400 + (v6_490.toInt.toNat - 9)) + 1) + 1) ≤ 600000 by omega) (show (((9000 + 131072 * (v6_490.toInt.toNat - 9)) + 131072) + 131072) ≤ 7302250 by omega) hl.1 (by first | (rw [hx154]; rfl) | (rw [← hx154]; rfl)) (fun ct216 rrr217 hB hoff219 H locs hP hD hS => ?_)
                                          obtain ⟨r217, rfl, hr217, hI221, hcf220⟩ := hB
                                          have hrel222 : ∀ q, ¬ dIn pM q → ct216 q = ct0_587 q := fun q hq => (hcf220 q hq).trans (hrel214 q hq)
                                          refine W.eq (g2 := F0 m 664 ls [.int r217, .int r209]) rfl ?_
                                          obtain ⟨hr217, -⟩ := hr217
                                          have hv223 : r217 = qSafe l g 7 ct0_587 v7_587 (1 : Int32) (1 : Int32) := hr217.trans (qSafe_o hrel214 (gix_rg hI0_587))
                                          refine lv_iconst (v := (-1)) hx hb dL_law_664 (by decide) ?_
                                          refine lv_ixor hx hb dL_law_665 ?_
                                          refine lv_topi (fun x224 ex224 => ?_)
                                          refine lv_iand hx hb dL_law_666 ?_
                                          refine lv_topi (fun x225 ex225 => ?_)
                                          have hz667 : x225.toInt = 0 := by rw [ex225, ex224, hv215, hv223]; exact q_safe (by decide) (by decide) (by decide)
                                          refine lv_if_ne (tgt := 674) hx hb dL_law_667 (by decide) (fun c226 => ?_) (fun c226 => ?_)
                                          · skip
                                            have c226 : ¬ (x225.toInt = 0) := fun q => c226 ((z_eq rfl (by decide : (0 : Int32).toInt = 0)).mpr q)
                                            exfalso
                                            omega
                                          · skip
                                            have c226 : x225.toInt = 0 := (z_eq rfl (by decide : (0 : Int32).toInt = 0)).mp c226
                                            refine lv_iconst (v := 1) hx hb dL_law_670 (by decide) ?_
                                            refine lv_goto (tgt := 675) hx hb dL_law_671 (by decide) ?_
                                            refine lv_istore (lv' := [(5, .int 1), (9, .int r190), (8, .int 0), (7, .int v7_587), (6, .int v6_490), (3, .ref q1), (2, .ref (ad2 0)), (1, .ref (ad1 0)), (0, .ref b)]) hx hb dL_law_675 hl (by decide) rfl (fun ls hl => ?_)
                                            refine lv_iconst (v := 0) hx hb dL_law_677 (by decide) ?_
                                            refine lv_istore (lv' := [(10, .int 0), (5, .int 1), (9, .int r190), (8, .int 0), (7, .int v7_587), (6, .int v6_490), (3, .ref q1), (2, .ref (ad2 0)), (1, .ref (ad1 0)), (0, .ref b)]) hx hb dL_law_678 hl (by decide) rfl (fun ls hl => ?_)
                                            have loop680 : ∀ (n680 : Nat) (v10_680 : Int32) (ct0_680 : Nat → va_E) (ct1_680 : Nat → va_E) (H : Heap) (locs : List Loc) (ls : Array Slot), ((5 - v10_680.toInt : Int).toNat < n680) → (0 ≤ v10_680.toInt ∧ v10_680.toInt ≤ 5) → (Inv8 g idn 7 ct0_680) → (∀ q, ¬ dIn pM q → ct0_680 q = ct0_587 q) → (Inv8 g idn 7 ct1_680) → (∀ q, ¬ dIn pM q → ct1_680 q = ct0_587 q) → zP g ([(q1, .inl (g.2 0, 76, .inl rw88))] ++ (dW pAll ad150 ct0_680 ++ dW pAll ad159 ct1_680)) H → va_D A ([(q1, .inl (g.2 0, 76, .inl rw88))] ++ (dW pAll ad150 ct0_680 ++ dW pAll ad159 ct1_680)) → va_S A s.heap H locs → lv_has ls 13 [(10, .int v10_680), (5, .int 1), (9, .int r190), (8, .int 0), (7, .int v7_587), (6, .int v6_490), (3, .ref q1), (2, .ref (ad2 0)), (1, .ref (ad1 0)), (0, .ref b)] → W p l e room_1 s m #[Value.ref b] below meth c H locs (((400 + (v6_490.toInt.toNat - 9)) + 1) + 1) (((9000 + 131072 * (v6_490.toInt.toNat - 9)) + 131072) + 131072) (lw_Z below #[Value.ref b] s) (F0 m 680 ls []) := by
                                              intro n680
                                              induction n680 with
                                              | zero =>
                                                intro v10_680 ct0_680 ct1_680 H locs ls hn680 b10_680 hI0_680 hr0_680 hI1_680 hr1_680 hP hD hS hl
                                                exact absurd hn680 (Nat.not_lt_zero _)
                                              | succ n680 ih680 =>
                                                intro v10_680 ct0_680 ct1_680 H locs ls hn680 b10_680 hI0_680 hr0_680 hI1_680 hr1_680 hP hD hS hl
                                                refine lv_iload hx hb dL_law_680 (lv_at hl 0 rfl) ?_
                                                refine lv_iconst (v := 5) hx hb dL_law_682 (by decide) ?_
                                                refine lv_icmp_ge (tgt := 787) hx hb dL_law_683 (by decide) (fun c227 => ?_) (fun c227 => ?_)
                                                · skip
                                                  have c227 : 5 ≤ v10_680.toInt := (z_le (by decide : (5 : Int32).toInt = 5) rfl).mp c227
                                                  obtain ⟨x228, ex228⟩ : ∃ y : Int32, y = v7_587 + 1 := ⟨_, rfl⟩
                                                  have tx228 : x228.toInt = v7_587.toInt + 1 := by rw [ex228]; exact z_add rfl (by decide : (1 : Int32).toInt = 1) (by omega) (by omega)
                                                  refine lv_iinc (v := x228) (lv' := [(7, .int x228), (10, .int v10_680), (5, .int 1), (9, .int r190), (8, .int 0), (6, .int v6_490), (3, .ref q1), (2, .ref (ad2 0)), (1, .ref (ad1 0)), (0, .ref b)]) hx hb dL_law_787 hl (k := 4) rfl (by rw [ex228]; rfl) (by decide) rfl (fun ls hl => ?_)
                                                  refine lv_goto (tgt := 587) hx hb dL_law_790 (by decide) ?_
                                                  exact ih587 x228 ct0_680 ct1_680 _ _ ls (by omega) (by first | omega | decide) hI0_680 hI1_680 (fun q hq => (hr1_680 q hq).trans (hr0_680 q hq).symm) hP hD hS (lv_sub hl [0, 2, 5, 6, 7, 8, 9] rfl)
                                                · skip
                                                  have c227 : ¬ (5 ≤ v10_680.toInt) := fun q => c227 ((z_le (by decide : (5 : Int32).toInt = 5) rfl).mpr q)
                                                  refine lv_aload_n hx hb dL_law_686 rfl (lv_at hl 8 rfl) ?_
                                                  refine lv_iload hx hb dL_law_687 (lv_at hl 4 rfl) ?_
                                                  refine lv_iload hx hb dL_law_689 (lv_at hl 0 rfl) ?_
                                                  refine lv_iconst (v := 0) hx hb dL_law_691 (by decide) ?_
                                                  obtain ⟨_, _, -, -, -, hs231⟩ := a8_0 hI0_680
                                                  refine LCV (n := 3) (As := [.int v7_587, .int v10_680, .int 0]) (rest := []) (E := [(q1, .inl (g.2 0, 76, .inl rw88))]) (F := dW pAll ad159 ct1_680) (f_fits l g 7 ct0_680 v7_587 v10_680 (0 : Int32)  hI0_680 ) (fun _ h => h) rfl rfl hP hD hS hA hx hb hml hown hg hK hN ⟨by decide, rfl⟩ hs231 mm_407 mm_408 mm_409 mm_52 mm_410 (by decide +kernel) ⟨(Nat.le_of_ble_eq_true rfl), (Nat.le_of_ble_eq_true rfl)⟩ rfl (Nat.le_of_ble_eq_true rfl) dL_law_692 (show (((400 + (v6_490.toInt.toNat - 9)) + 1) + 1) ≤ 600000 by omega) (show (((9000 + 131072 * (v6_490.toInt.toNat - 9)) + 131072) + 131072) ≤ 7302250 by omega) hl.1 (by first | (rw [hx154]; rfl) | (rw [← hx154]; rfl)) (fun ct229 rrr230 hB hoff232 H locs hP hD hS => ?_)
                                                  obtain ⟨r230, rfl, hr230, hI234, hcf233⟩ := hB
                                                  have hrel235 : ∀ q, ¬ dIn pM q → ct229 q = ct0_587 q := fun q hq => (hcf233 q hq).trans (hr0_680 q hq)
                                                  refine W.eq (g2 := F0 m 695 ls [.int r230]) rfl ?_
                                                  obtain ⟨hr230, -⟩ := hr230
                                                  have hv236 : r230 = qFits l g 7 ct0_587 v7_587 v10_680 (0 : Int32) := hr230.trans (qFits_o hr0_680 (gix_rg hI0_587))
                                                  refine lv_istore (lv' := [(11, .int r230), (10, .int v10_680), (5, .int 1), (9, .int r190), (8, .int 0), (7, .int v7_587), (6, .int v6_490), (3, .ref q1), (2, .ref (ad2 0)), (1, .ref (ad1 0)), (0, .ref b)]) hx hb dL_law_695 hl (by decide) rfl (fun ls hl => ?_)
                                                  refine lv_aload_n hx hb dL_law_697 rfl (lv_at hl 9 rfl) ?_
                                                  refine lv_iload hx hb dL_law_698 (lv_at hl 5 rfl) ?_
                                                  refine lv_iconst (v := 1) hx hb dL_law_700 (by decide) ?_
                                                  refine lv_iload hx hb dL_law_701 (lv_at hl 1 rfl) ?_
                                                  obtain ⟨_, _, -, -, -, hs239⟩ := a8_0 hI234
                                                  refine LCV (n := 3) (As := [.int v7_587, .int 1, .int v10_680]) (rest := []) (E := [(q1, .inl (g.2 0, 76, .inl rw88))]) (F := dW pAll ad159 ct1_680) (f_steps l g 7 ct229 v7_587 (1 : Int32) v10_680  hI234 ) (fun _ h => h) rfl rfl hP hD hS hA hx hb hml hown hg hK hN ⟨by decide, rfl⟩ hs239 mm_509 mm_510 mm_511 mm_52 mm_512 (by decide +kernel) ⟨(Nat.le_of_ble_eq_true rfl), (Nat.le_of_ble_eq_true rfl)⟩ rfl (Nat.le_of_ble_eq_true rfl) dL_law_703 (show (((400 + (v6_490.toInt.toNat - 9)) + 1) + 1) ≤ 600000 by omega) (show (((9000 + 131072 * (v6_490.toInt.toNat - 9)) + 131072) + 131072) ≤ 7302250 by omega) hl.1 (by first | (rw [hx154]; rfl) | (rw [← hx154]; rfl)) (fun ct237 rrr238 hB hoff240 H locs hP hD hS => ?_)
                                                  obtain ⟨r238, rfl, hr238, hI242, hcf241⟩ := hB
                                                  have hrel243 : ∀ q, ¬ dIn pM q → ct237 q = ct0_587 q := fun q hq => (hcf241 q hq).trans (hrel235 q hq)
                                                  refine W.eq (g2 := F0 m 706 ls [.int r238]) rfl ?_
                                                  obtain ⟨hr238, -⟩ := hr238
                                                  have hv244 : r238 = qStp l g 7 ct0_587 v7_587 (1 : Int32) v10_680 := hr238.trans (qStp_o hrel235 (gix_rg hI0_587))
                                                  refine lv_istore (lv' := [(12, .int r238), (11, .int r230), (10, .int v10_680), (5, .int 1), (9, .int r190), (8, .int 0), (7, .int v7_587), (6, .int v6_490), (3, .ref q1), (2, .ref (ad2 0)), (1, .ref (ad1 0)), (0, .ref b)]) hx hb dL_law_706 hl (by decide) rfl (fun ls hl => ?_)
                                                  refine lv_iload hx hb dL_law_708 (lv_at hl 3 rfl) ?_
                                                  refine lv_if_eq (tgt := 778) hx hb dL_law_710 (by decide) (fun c245 => ?_) (fun c245 => ?_)
                                                  · skip
                                                    exact absurd c245 (by decide)
                                                  · skip
                                                    refine lv_iload hx hb dL_law_713 (lv_at hl 1 rfl) ?_
                                                    refine lv_if_lt (tgt := 736) hx hb dL_law_715 (by decide) (fun c246 => ?_) (fun c246 => ?_)
                                                    · skip
                                                      have c246 : r230.toInt < 0 := (z_lt rfl (by decide : (0 : Int32).toInt = 0)).mp c246
                                                      refine lv_iload hx hb dL_law_736 (lv_at hl 5 rfl) ?_
                                                      refine lv_if_eq (tgt := 774) hx hb dL_law_738 (by decide) (fun c247 => ?_) (fun c247 => ?_)
                                                      · skip
                                                        refine lv_iconst (v := 1) hx hb dL_law_774 (by decide) ?_
                                                        refine lv_goto (tgt := 779) hx hb dL_law_775 (by decide) ?_
                                                        refine lv_istore (lv' := [(5, .int 1), (12, .int r238), (11, .int r230), (10, .int v10_680), (9, .int r190), (8, .int 0), (7, .int v7_587), (6, .int v6_490), (3, .ref q1), (2, .ref (ad2 0)), (1, .ref (ad1 0)), (0, .ref b)]) hx hb dL_law_779 hl (by decide) rfl (fun ls hl => ?_)
                                                        obtain ⟨x248, ex248⟩ : ∃ y : Int32, y = v10_680 + 1 := ⟨_, rfl⟩
                                                        have tx248 : x248.toInt = v10_680.toInt + 1 := by rw [ex248]; exact z_add rfl (by decide : (1 : Int32).toInt = 1) (by omega) (by omega)
                                                        refine lv_iinc (v := x248) (lv' := [(10, .int x248), (5, .int 1), (12, .int r238), (11, .int r230), (9, .int r190), (8, .int 0), (7, .int v7_587), (6, .int v6_490), (3, .ref q1), (2, .ref (ad2 0)), (1, .ref (ad1 0)), (0, .ref b)]) hx hb dL_law_781 hl (k := 3) rfl (by rw [ex248]; rfl) (by decide) rfl (fun ls hl => ?_)
                                                        refine lv_goto (tgt := 680) hx hb dL_law_784 (by decide) ?_
                                                        exact ih680 x248 ct237 ct1_680 _ _ ls (by omega) (by first | omega | decide) hI242 hrel243 hI1_680 hr1_680 hP hD hS (lv_sub hl [0, 1, 4, 5, 6, 7, 8, 9, 10, 11] rfl)
                                                      · skip
                                                        exact absurd c247 (by decide)
                                                    · skip
                                                      have c246 : ¬ (r230.toInt < 0) := fun q => c246 ((z_lt rfl (by decide : (0 : Int32).toInt = 0)).mpr q)
                                                      refine lv_aload_n hx hb dL_law_718 rfl (lv_at hl 10 rfl) ?_
                                                      refine lv_iload hx hb dL_law_719 (lv_at hl 6 rfl) ?_
                                                      refine lv_iload hx hb dL_law_721 (lv_at hl 2 rfl) ?_
                                                      refine lv_bipush (v := 15) hx hb dL_law_723 (by decide) ?_
                                                      obtain ⟨_, _, -, -, -, hs251⟩ := a8_0 hI242
                                                      refine LCV (n := 3) (As := [.int v7_587, .int v10_680, .int 15]) (rest := []) (E := [(q1, .inl (g.2 0, 76, .inl rw88))]) (F := dW pAll ad159 ct1_680) (f_fits l g 7 ct237 v7_587 v10_680 (15 : Int32)  hI242 ) (fun _ h => h) rfl rfl hP hD hS hA hx hb hml hown hg hK hN ⟨by decide, rfl⟩ hs251 mm_407 mm_408 mm_409 mm_52 mm_410 (by decide +kernel) ⟨(Nat.le_of_ble_eq_true rfl), (Nat.le_of_ble_eq_true rfl)⟩ rfl (Nat.le_of_ble_eq_true rfl) dL_law_725 (show (((400 + (v6_490.toInt.toNat - 9)) + 1) + 1) ≤ 600000 by omega) (show (((9000 + 131072 * (v6_490.toInt.toNat - 9)) + 131072) + 131072) ≤ 7302250 by omega) hl.1 (by first | (rw [hx154]; rfl) | (rw [← hx154]; rfl)) (fun ct249 rrr250 hB hoff252 H locs hP hD hS => ?_)
                                                      obtain ⟨r250, rfl, hr250, hI254, hcf253⟩ := hB
                                                      have hrel255 : ∀ q, ¬ dIn pM q → ct249 q = ct0_587 q := fun q hq => (hcf253 q hq).trans (hrel243 q hq)
                                                      refine W.eq (g2 := F0 m 728 ls [.int r250]) rfl ?_
                                                      obtain ⟨hr250, -⟩ := hr250
                                                      have hv256 : r250 = qFits l g 7 ct0_587 v7_587 v10_680 (15 : Int32) := hr250.trans (qFits_o hrel243 (gix_rg hI0_587))
                                                      refine lv_iload hx hb dL_law_728 (lv_at hl 1 rfl) ?_
                                                      refine lv_iconst (v := (-1)) hx hb dL_law_730 (by decide) ?_
                                                      refine lv_ixor hx hb dL_law_731 ?_
                                                      refine lv_topi (fun x257 ex257 => ?_)
                                                      refine lv_iand hx hb dL_law_732 ?_
                                                      refine lv_topi (fun x258 ex258 => ?_)
                                                      have hz733 : x258.toInt = 0 := by rw [ex258, ex257, hv256, hv236]; exact q_fits (by decide) (by rw [← hv236]; omega)
                                                      refine lv_if_ne (tgt := 778) hx hb dL_law_733 (by decide) (fun c259 => ?_) (fun c259 => ?_)
                                                      · skip
                                                        have c259 : ¬ (x258.toInt = 0) := fun q => c259 ((z_eq rfl (by decide : (0 : Int32).toInt = 0)).mpr q)
                                                        exfalso
                                                        omega
                                                      · skip
                                                        have c259 : x258.toInt = 0 := (z_eq rfl (by decide : (0 : Int32).toInt = 0)).mp c259
                                                        refine lv_iload hx hb dL_law_736 (lv_at hl 5 rfl) ?_
                                                        refine lv_if_eq (tgt := 774) hx hb dL_law_738 (by decide) (fun c260 => ?_) (fun c260 => ?_)
                                                        · skip
                                                          refine lv_iconst (v := 1) hx hb dL_law_774 (by decide) ?_
                                                          refine lv_goto (tgt := 779) hx hb dL_law_775 (by decide) ?_
                                                          refine lv_istore (lv' := [(5, .int 1), (12, .int r238), (11, .int r230), (10, .int v10_680), (9, .int r190), (8, .int 0), (7, .int v7_587), (6, .int v6_490), (3, .ref q1), (2, .ref (ad2 0)), (1, .ref (ad1 0)), (0, .ref b)]) hx hb dL_law_779 hl (by decide) rfl (fun ls hl => ?_)
                                                          obtain ⟨x261, ex261⟩ : ∃ y : Int32, y = v10_680 + 1 := ⟨_, rfl⟩
                                                          have tx261 : x261.toInt = v10_680.toInt + 1 := by rw [ex261]; exact z_add rfl (by decide : (1 : Int32).toInt = 1) (by omega) (by omega)
                                                          refine lv_iinc (v := x261) (lv' := [(10, .int x261), (5, .int 1), (12, .int r238), (11, .int r230), (9, .int r190), (8, .int 0), (7, .int v7_587), (6, .int v6_490), (3, .ref q1), (2, .ref (ad2 0)), (1, .ref (ad1 0)), (0, .ref b)]) hx hb dL_law_781 hl (k := 3) rfl (by rw [ex261]; rfl) (by decide) rfl (fun ls hl => ?_)
                                                          refine lv_goto (tgt := 680) hx hb dL_law_784 (by decide) ?_
                                                          exact ih680 x261 ct249 ct1_680 _ _ ls (by omega) (by first | omega | decide) hI254 hrel255 hI1_680 hr1_680 hP hD hS (lv_sub hl [0, 1, 4, 5, 6, 7, 8, 9, 10, 11] rfl)
                                                        · skip
                                                          exact absurd c260 (by decide)
                                            exact loop680 ((5 - (0 : Int32).toInt : Int).toNat + 1) (0 : Int32) ct216 ct1_587 _ _ ls (by omega) (by first | omega | decide) hI221 hrel222 hI1_587 hp_587 hP hD hS (lv_sub hl [0, 1, 2, 3, 4, 5, 6, 7, 8, 9] rfl)
                                      · skip
                                        have c206 : r199.toInt = 0 := (z_eq rfl (by decide : (0 : Int32).toInt = 0)).mp c206
                                        exfalso
                                        omega
                                  · skip
                                    rw [ex187] at c188
                                    have hsome : 0 < (qGiv l g 7 ct0_587 v7_587 1).toInt := by
                                      have h : ¬ (r180 ≤ 0) := fun q => c188 ((lg_cmp_le _ _).mpr q)
                                      rw [hv186, Int64.le_iff_toInt_le] at h
                                      have h0 : (0 : Int64).toInt = 0 := by decide
                                      omega
                                    refine lv_iconst (v := 1) hx hb dL_law_605 (by decide) ?_
                                    refine lv_goto (tgt := 610) hx hb dL_law_606 (by decide) ?_
                                    refine lv_istore (lv' := [(8, .int 1), (7, .int v7_587), (5, .int 1), (6, .int v6_490), (3, .ref q1), (2, .ref (ad2 0)), (1, .ref (ad1 0)), (0, .ref b)]) hx hb dL_law_610 hl (by decide) rfl (fun ls hl => ?_)
                                    refine lv_aload_n hx hb dL_law_612 rfl (lv_at hl 6 rfl) ?_
                                    refine lv_iload hx hb dL_law_613 (lv_at hl 1 rfl) ?_
                                    refine lv_iconst (v := 1) hx hb dL_law_615 (by decide) ?_
                                    refine lv_bipush (v := 8) hx hb dL_law_616 (by decide) ?_
                                    obtain ⟨_, _, -, -, -, hs264⟩ := a8_0 hI184
                                    refine LCV (n := 3) (As := [.int v7_587, .int 1, .int 8]) (rest := []) (E := [(q1, .inl (g.2 0, 76, .inl rw88))]) (F := dW pAll ad159 ct1_587) (f_steps l g 7 ct179 v7_587 (1 : Int32) (8 : Int32)  hI184 ) (fun _ h => h) rfl rfl hP hD hS hA hx hb hml hown hg hK hN ⟨by decide, rfl⟩ hs264 mm_509 mm_510 mm_511 mm_52 mm_512 (by decide +kernel) ⟨(Nat.le_of_ble_eq_true rfl), (Nat.le_of_ble_eq_true rfl)⟩ rfl (Nat.le_of_ble_eq_true rfl) dL_law_618 (show (((400 + (v6_490.toInt.toNat - 9)) + 1) + 1) ≤ 600000 by omega) (show (((9000 + 131072 * (v6_490.toInt.toNat - 9)) + 131072) + 131072) ≤ 7302250 by omega) hl.1 (by first | (rw [hx154]; rfl) | (rw [← hx154]; rfl)) (fun ct262 rrr263 hB hoff265 H locs hP hD hS => ?_)
                                    obtain ⟨r263, rfl, hr263, hI267, hcf266⟩ := hB
                                    have hrel268 : ∀ q, ¬ dIn pM q → ct262 q = ct0_587 q := fun q hq => (hcf266 q hq).trans (hrel185 q hq)
                                    refine W.eq (g2 := F0 m 621 ls [.int r263]) rfl ?_
                                    obtain ⟨hr263, -⟩ := hr263
                                    have hv269 : r263 = qStp l g 7 ct0_587 v7_587 (1 : Int32) (8 : Int32) := hr263.trans (qStp_o hrel185 (gix_rg hI0_587))
                                    refine lv_istore (lv' := [(9, .int r263), (8, .int 1), (7, .int v7_587), (5, .int 1), (6, .int v6_490), (3, .ref q1), (2, .ref (ad2 0)), (1, .ref (ad1 0)), (0, .ref b)]) hx hb dL_law_621 hl (by decide) rfl (fun ls hl => ?_)
                                    refine lv_iload hx hb dL_law_623 (lv_at hl 3 rfl) ?_
                                    refine lv_if_eq (tgt := 674) hx hb dL_law_625 (by decide) (fun c270 => ?_) (fun c270 => ?_)
                                    · skip
                                      exact absurd c270 (by decide)
                                    · skip
                                      refine lv_aload_n hx hb dL_law_628 rfl (lv_at hl 7 rfl) ?_
                                      refine lv_iload hx hb dL_law_629 (lv_at hl 2 rfl) ?_
                                      refine lv_iconst (v := 1) hx hb dL_law_631 (by decide) ?_
                                      obtain ⟨_, _, -, -, -, hs273⟩ := a8_0 hI267
                                      refine LCV (n := 2) (As := [.int v7_587, .int 1]) (rest := []) (E := [(q1, .inl (g.2 0, 76, .inl rw88))]) (F := dW pAll ad159 ct1_587) (f_tooFew l g 7 ct262 v7_587 (1 : Int32)  hI267 ) (fun _ h => h) rfl rfl hP hD hS hA hx hb hml hown hg hK hN ⟨by decide, rfl⟩ hs273 mm_505 mm_506 mm_507 mm_52 mm_508 (by decide +kernel) ⟨(Nat.le_of_ble_eq_true rfl), (Nat.le_of_ble_eq_true rfl)⟩ rfl (Nat.le_of_ble_eq_true rfl) dL_law_632 (show (((400 + (v6_490.toInt.toNat - 9)) + 1) + 1) ≤ 600000 by omega) (show (((9000 + 131072 * (v6_490.toInt.toNat - 9)) + 131072) + 131072) ≤ 7302250 by omega) hl.1 (by first | (rw [hx154]; rfl) | (rw [← hx154]; rfl)) (fun ct271 rrr272 hB hoff274 H locs hP hD hS => ?_)
                                      obtain ⟨r272, rfl, hr272, hI276, hcf275⟩ := hB
                                      have hrel277 : ∀ q, ¬ dIn pM q → ct271 q = ct0_587 q := fun q hq => (hcf275 q hq).trans (hrel268 q hq)
                                      refine W.eq (g2 := F0 m 635 ls [.int r272]) rfl ?_
                                      obtain ⟨hr272, -⟩ := hr272
                                      have hv278 : r272 = qFew l g 7 ct0_587 v7_587 (1 : Int32) := hr272.trans (qFew_o hrel268 (gix_rg hI0_587))
                                      have hfw := lq_few (l := l) hI0_587 (b := v7_587) (by omega)
                                      rw [← hv278] at hfw
                                      have hz635 : r272.toInt = 0 := hfw.mpr hsome
                                      refine lv_if_ne (tgt := 642) hx hb dL_law_635 (by decide) (fun c279 => ?_) (fun c279 => ?_)
                                      · skip
                                        have c279 : ¬ (r272.toInt = 0) := fun q => c279 ((z_eq rfl (by decide : (0 : Int32).toInt = 0)).mpr q)
                                        exfalso
                                        omega
                                      · skip
                                        have c279 : r272.toInt = 0 := (z_eq rfl (by decide : (0 : Int32).toInt = 0)).mp c279
                                        refine lv_iconst (v := 1) hx hb dL_law_638 (by decide) ?_
                                        refine lv_goto (tgt := 643) hx hb dL_law_639 (by decide) ?_
                                        refine lv_iload hx hb dL_law_643 (lv_at hl 1 rfl) ?_
                                        refine lv_icmp_ne (tgt := 674) hx hb dL_law_645 (by decide) (fun c280 => ?_) (fun c280 => ?_)
                                        · skip
                                          exact absurd c280 (by decide)
                                        · skip
                                          refine lv_aload_n hx hb dL_law_648 rfl (lv_at hl 7 rfl) ?_
                                          refine lv_iload hx hb dL_law_649 (lv_at hl 2 rfl) ?_
                                          refine lv_iconst (v := 2) hx hb dL_law_651 (by decide) ?_
                                          refine lv_iconst (v := 1) hx hb dL_law_652 (by decide) ?_
                                          obtain ⟨_, _, -, -, -, hs283⟩ := a8_0 hI276
                                          refine LCV (n := 3) (As := [.int v7_587, .int 2, .int 1]) (rest := []) (E := [(q1, .inl (g.2 0, 76, .inl rw88))]) (F := dW pAll ad159 ct1_587) (f_safe l g 7 ct271 v7_587 (2 : Int32) (1 : Int32)  hI276 ) (fun _ h => h) rfl rfl hP hD hS hA hx hb hml hown hg hK hN ⟨by decide, rfl⟩ hs283 mm_526 mm_527 mm_528 mm_52 mm_529 (by decide +kernel) ⟨(Nat.le_of_ble_eq_true rfl), (Nat.le_of_ble_eq_true rfl)⟩ rfl (Nat.le_of_ble_eq_true rfl) dL_law_653 (show (((400 + (v6_490.toInt.toNat - 9)) + 1) + 1) ≤ 600000 by omega) (show (((9000 + 131072 * (v6_490.toInt.toNat - 9)) + 131072) + 131072) ≤ 7302250 by omega) hl.1 (by first | (rw [hx154]; rfl) | (rw [← hx154]; rfl)) (fun ct281 rrr282 hB hoff284 H locs hP hD hS => ?_)
                                          obtain ⟨r282, rfl, hr282, hI286, hcf285⟩ := hB
                                          have hrel287 : ∀ q, ¬ dIn pM q → ct281 q = ct0_587 q := fun q hq => (hcf285 q hq).trans (hrel277 q hq)
                                          refine W.eq (g2 := F0 m 656 ls [.int r282]) rfl ?_
                                          obtain ⟨hr282, -⟩ := hr282
                                          have hv288 : r282 = qSafe l g 7 ct0_587 v7_587 (2 : Int32) (1 : Int32) := hr282.trans (qSafe_o hrel277 (gix_rg hI0_587))
                                          refine lv_aload_n hx hb dL_law_656 rfl (lv_at hl 7 rfl) ?_
                                          refine lv_iload hx hb dL_law_657 (lv_at hl 2 rfl) ?_
                                          refine lv_iconst (v := 1) hx hb dL_law_659 (by decide) ?_
                                          refine lv_iconst (v := 1) hx hb dL_law_660 (by decide) ?_
                                          obtain ⟨_, _, -, -, -, hs291⟩ := a8_0 hI286
                                          refine LCV (n := 3) (As := [.int v7_587, .int 1, .int 1]) (rest := [.int r282]) (E := [(q1, .inl (g.2 0, 76, .inl rw88))]) (F := dW pAll ad159 ct1_587) (f_safe l g 7 ct281 v7_587 (1 : Int32) (1 : Int32)  hI286 ) (fun _ h => h) rfl rfl hP hD hS hA hx hb hml hown hg hK hN ⟨by decide, rfl⟩ hs291 mm_526 mm_527 mm_528 mm_52 mm_529 (by decide +kernel) ⟨(Nat.le_of_ble_eq_true rfl), (Nat.le_of_ble_eq_true rfl)⟩ rfl (Nat.le_of_ble_eq_true rfl) dL_law_661 (show (((400 + (v6_490.toInt.toNat - 9)) + 1) + 1) ≤ 600000 by omega) (show (((9000 + 131072 * (v6_490.toInt.toNat - 9)) + 131072) + 131072) ≤ 7302250 by omega) hl.1 (by first | (rw [hx154]; rfl) | (rw [← hx154]; rfl)) (fun ct289 rrr290 hB hoff292 H locs hP hD hS => ?_)
                                          obtain ⟨r290, rfl, hr290, hI294, hcf293⟩ := hB
                                          have hrel295 : ∀ q, ¬ dIn pM q → ct289 q = ct0_587 q := fun q hq => (hcf293 q hq).trans (hrel287 q hq)
                                          refine W.eq (g2 := F0 m 664 ls [.int r290, .int r282]) rfl ?_
                                          obtain ⟨hr290, -⟩ := hr290
                                          have hv296 : r290 = qSafe l g 7 ct0_587 v7_587 (1 : Int32) (1 : Int32) := hr290.trans (qSafe_o hrel287 (gix_rg hI0_587))
                                          refine lv_iconst (v := (-1)) hx hb dL_law_664 (by decide) ?_
                                          refine lv_ixor hx hb dL_law_665 ?_
                                          refine lv_topi (fun x297 ex297 => ?_)
                                          refine lv_iand hx hb dL_law_666 ?_
                                          refine lv_topi (fun x298 ex298 => ?_)
                                          have hz667 : x298.toInt = 0 := by rw [ex298, ex297, hv288, hv296]; exact q_safe (by decide) (by decide) (by decide)
                                          refine lv_if_ne (tgt := 674) hx hb dL_law_667 (by decide) (fun c299 => ?_) (fun c299 => ?_)
                                          · skip
                                            have c299 : ¬ (x298.toInt = 0) := fun q => c299 ((z_eq rfl (by decide : (0 : Int32).toInt = 0)).mpr q)
                                            exfalso
                                            omega
                                          · skip
                                            have c299 : x298.toInt = 0 := (z_eq rfl (by decide : (0 : Int32).toInt = 0)).mp c299
                                            refine lv_iconst (v := 1) hx hb dL_law_670 (by decide) ?_
                                            refine lv_goto (tgt := 675) hx hb dL_law_671 (by decide) ?_
                                            refine lv_istore (lv' := [(5, .int 1), (9, .int r263), (8, .int 1), (7, .int v7_587), (6, .int v6_490), (3, .ref q1), (2, .ref (ad2 0)), (1, .ref (ad1 0)), (0, .ref b)]) hx hb dL_law_675 hl (by decide) rfl (fun ls hl => ?_)
                                            refine lv_iconst (v := 0) hx hb dL_law_677 (by decide) ?_
                                            refine lv_istore (lv' := [(10, .int 0), (5, .int 1), (9, .int r263), (8, .int 1), (7, .int v7_587), (6, .int v6_490), (3, .ref q1), (2, .ref (ad2 0)), (1, .ref (ad1 0)), (0, .ref b)]) hx hb dL_law_678 hl (by decide) rfl (fun ls hl => ?_)
                                            have loop680 : ∀ (n680 : Nat) (v10_680 : Int32) (ct0_680 : Nat → va_E) (ct1_680 : Nat → va_E) (H : Heap) (locs : List Loc) (ls : Array Slot), ((5 - v10_680.toInt : Int).toNat < n680) → (0 ≤ v10_680.toInt ∧ v10_680.toInt ≤ 5) → (Inv8 g idn 7 ct0_680) → (∀ q, ¬ dIn pM q → ct0_680 q = ct0_587 q) → (Inv8 g idn 7 ct1_680) → (∀ q, ¬ dIn pM q → ct1_680 q = ct0_587 q) → zP g ([(q1, .inl (g.2 0, 76, .inl rw88))] ++ (dW pAll ad150 ct0_680 ++ dW pAll ad159 ct1_680)) H → va_D A ([(q1, .inl (g.2 0, 76, .inl rw88))] ++ (dW pAll ad150 ct0_680 ++ dW pAll ad159 ct1_680)) → va_S A s.heap H locs → lv_has ls 13 [(10, .int v10_680), (5, .int 1), (9, .int r263), (8, .int 1), (7, .int v7_587), (6, .int v6_490), (3, .ref q1), (2, .ref (ad2 0)), (1, .ref (ad1 0)), (0, .ref b)] → W p l e room_1 s m #[Value.ref b] below meth c H locs (((400 + (v6_490.toInt.toNat - 9)) + 1) + 1) (((9000 + 131072 * (v6_490.toInt.toNat - 9)) + 131072) + 131072) (lw_Z below #[Value.ref b] s) (F0 m 680 ls []) := by
                                              intro n680
                                              induction n680 with
                                              | zero =>
                                                intro v10_680 ct0_680 ct1_680 H locs ls hn680 b10_680 hI0_680 hr0_680 hI1_680 hr1_680 hP hD hS hl
                                                exact absurd hn680 (Nat.not_lt_zero _)
                                              | succ n680 ih680 =>
                                                intro v10_680 ct0_680 ct1_680 H locs ls hn680 b10_680 hI0_680 hr0_680 hI1_680 hr1_680 hP hD hS hl
                                                refine lv_iload hx hb dL_law_680 (lv_at hl 0 rfl) ?_
                                                refine lv_iconst (v := 5) hx hb dL_law_682 (by decide) ?_
                                                refine lv_icmp_ge (tgt := 787) hx hb dL_law_683 (by decide) (fun c300 => ?_) (fun c300 => ?_)
                                                · skip
                                                  have c300 : 5 ≤ v10_680.toInt := (z_le (by decide : (5 : Int32).toInt = 5) rfl).mp c300
                                                  obtain ⟨x301, ex301⟩ : ∃ y : Int32, y = v7_587 + 1 := ⟨_, rfl⟩
                                                  have tx301 : x301.toInt = v7_587.toInt + 1 := by rw [ex301]; exact z_add rfl (by decide : (1 : Int32).toInt = 1) (by omega) (by omega)
                                                  refine lv_iinc (v := x301) (lv' := [(7, .int x301), (10, .int v10_680), (5, .int 1), (9, .int r263), (8, .int 1), (6, .int v6_490), (3, .ref q1), (2, .ref (ad2 0)), (1, .ref (ad1 0)), (0, .ref b)]) hx hb dL_law_787 hl (k := 4) rfl (by rw [ex301]; rfl) (by decide) rfl (fun ls hl => ?_)
                                                  refine lv_goto (tgt := 587) hx hb dL_law_790 (by decide) ?_
                                                  exact ih587 x301 ct0_680 ct1_680 _ _ ls (by omega) (by first | omega | decide) hI0_680 hI1_680 (fun q hq => (hr1_680 q hq).trans (hr0_680 q hq).symm) hP hD hS (lv_sub hl [0, 2, 5, 6, 7, 8, 9] rfl)
                                                · skip
                                                  have c300 : ¬ (5 ≤ v10_680.toInt) := fun q => c300 ((z_le (by decide : (5 : Int32).toInt = 5) rfl).mpr q)
                                                  refine lv_aload_n hx hb dL_law_686 rfl (lv_at hl 8 rfl) ?_
                                                  refine lv_iload hx hb dL_law_687 (lv_at hl 4 rfl) ?_
                                                  refine lv_iload hx hb dL_law_689 (lv_at hl 0 rfl) ?_
                                                  refine lv_iconst (v := 0) hx hb dL_law_691 (by decide) ?_
                                                  obtain ⟨_, _, -, -, -, hs304⟩ := a8_0 hI0_680
                                                  refine LCV (n := 3) (As := [.int v7_587, .int v10_680, .int 0]) (rest := []) (E := [(q1, .inl (g.2 0, 76, .inl rw88))]) (F := dW pAll ad159 ct1_680) (f_fits l g 7 ct0_680 v7_587 v10_680 (0 : Int32)  hI0_680 ) (fun _ h => h) rfl rfl hP hD hS hA hx hb hml hown hg hK hN ⟨by decide, rfl⟩ hs304 mm_407 mm_408 mm_409 mm_52 mm_410 (by decide +kernel) ⟨(Nat.le_of_ble_eq_true rfl), (Nat.le_of_ble_eq_true rfl)⟩ rfl (Nat.le_of_ble_eq_true rfl) dL_law_692 (show (((400 + (v6_490.toInt.toNat - 9)) + 1) + 1) ≤ 600000 by omega) (show (((9000 + 131072 * (v6_490.toInt.toNat - 9)) + 131072) + 131072) ≤ 7302250 by omega) hl.1 (by first | (rw [hx154]; rfl) | (rw [← hx154]; rfl)) (fun ct302 rrr303 hB hoff305 H locs hP hD hS => ?_)
                                                  obtain ⟨r303, rfl, hr303, hI307, hcf306⟩ := hB
                                                  have hrel308 : ∀ q, ¬ dIn pM q → ct302 q = ct0_587 q := fun q hq => (hcf306 q hq).trans (hr0_680 q hq)
                                                  refine W.eq (g2 := F0 m 695 ls [.int r303]) rfl ?_
                                                  obtain ⟨hr303, -⟩ := hr303
                                                  have hv309 : r303 = qFits l g 7 ct0_587 v7_587 v10_680 (0 : Int32) := hr303.trans (qFits_o hr0_680 (gix_rg hI0_587))
                                                  refine lv_istore (lv' := [(11, .int r303), (10, .int v10_680), (5, .int 1), (9, .int r263), (8, .int 1), (7, .int v7_587), (6, .int v6_490), (3, .ref q1), (2, .ref (ad2 0)), (1, .ref (ad1 0)), (0, .ref b)]) hx hb dL_law_695 hl (by decide) rfl (fun ls hl => ?_)
                                                  refine lv_aload_n hx hb dL_law_697 rfl (lv_at hl 9 rfl) ?_
                                                  refine lv_iload hx hb dL_law_698 (lv_at hl 5 rfl) ?_
                                                  refine lv_iconst (v := 1) hx hb dL_law_700 (by decide) ?_
                                                  refine lv_iload hx hb dL_law_701 (lv_at hl 1 rfl) ?_
                                                  obtain ⟨_, _, -, -, -, hs312⟩ := a8_0 hI307
                                                  refine LCV (n := 3) (As := [.int v7_587, .int 1, .int v10_680]) (rest := []) (E := [(q1, .inl (g.2 0, 76, .inl rw88))]) (F := dW pAll ad159 ct1_680) (f_steps l g 7 ct302 v7_587 (1 : Int32) v10_680  hI307 ) (fun _ h => h) rfl rfl hP hD hS hA hx hb hml hown hg hK hN ⟨by decide, rfl⟩ hs312 mm_509 mm_510 mm_511 mm_52 mm_512 (by decide +kernel) ⟨(Nat.le_of_ble_eq_true rfl), (Nat.le_of_ble_eq_true rfl)⟩ rfl (Nat.le_of_ble_eq_true rfl) dL_law_703 (show (((400 + (v6_490.toInt.toNat - 9)) + 1) + 1) ≤ 600000 by omega) (show (((9000 + 131072 * (v6_490.toInt.toNat - 9)) + 131072) + 131072) ≤ 7302250 by omega) hl.1 (by first | (rw [hx154]; rfl) | (rw [← hx154]; rfl)) (fun ct310 rrr311 hB hoff313 H locs hP hD hS => ?_)
                                                  obtain ⟨r311, rfl, hr311, hI315, hcf314⟩ := hB
                                                  have hrel316 : ∀ q, ¬ dIn pM q → ct310 q = ct0_587 q := fun q hq => (hcf314 q hq).trans (hrel308 q hq)
                                                  refine W.eq (g2 := F0 m 706 ls [.int r311]) rfl ?_
                                                  obtain ⟨hr311, -⟩ := hr311
                                                  have hv317 : r311 = qStp l g 7 ct0_587 v7_587 (1 : Int32) v10_680 := hr311.trans (qStp_o hrel308 (gix_rg hI0_587))
                                                  refine lv_istore (lv' := [(12, .int r311), (11, .int r303), (10, .int v10_680), (5, .int 1), (9, .int r263), (8, .int 1), (7, .int v7_587), (6, .int v6_490), (3, .ref q1), (2, .ref (ad2 0)), (1, .ref (ad1 0)), (0, .ref b)]) hx hb dL_law_706 hl (by decide) rfl (fun ls hl => ?_)
                                                  refine lv_iload hx hb dL_law_708 (lv_at hl 3 rfl) ?_
                                                  refine lv_if_eq (tgt := 778) hx hb dL_law_710 (by decide) (fun c318 => ?_) (fun c318 => ?_)
                                                  · skip
                                                    exact absurd c318 (by decide)
                                                  · skip
                                                    refine lv_iload hx hb dL_law_713 (lv_at hl 1 rfl) ?_
                                                    refine lv_if_lt (tgt := 736) hx hb dL_law_715 (by decide) (fun c319 => ?_) (fun c319 => ?_)
                                                    · skip
                                                      have c319 : r303.toInt < 0 := (z_lt rfl (by decide : (0 : Int32).toInt = 0)).mp c319
                                                      refine lv_iload hx hb dL_law_736 (lv_at hl 5 rfl) ?_
                                                      refine lv_if_eq (tgt := 774) hx hb dL_law_738 (by decide) (fun c320 => ?_) (fun c320 => ?_)
                                                      · skip
                                                        exact absurd c320 (by decide)
                                                      · skip
                                                        refine lv_iload hx hb dL_law_741 (lv_at hl 0 rfl) ?_
                                                        refine lv_if_lt (tgt := 774) hx hb dL_law_743 (by decide) (fun c321 => ?_) (fun c321 => ?_)
                                                        · skip
                                                          have c321 : r311.toInt < 0 := (z_lt rfl (by decide : (0 : Int32).toInt = 0)).mp c321
                                                          refine lv_iconst (v := 1) hx hb dL_law_774 (by decide) ?_
                                                          refine lv_goto (tgt := 779) hx hb dL_law_775 (by decide) ?_
                                                          refine lv_istore (lv' := [(5, .int 1), (12, .int r311), (11, .int r303), (10, .int v10_680), (9, .int r263), (8, .int 1), (7, .int v7_587), (6, .int v6_490), (3, .ref q1), (2, .ref (ad2 0)), (1, .ref (ad1 0)), (0, .ref b)]) hx hb dL_law_779 hl (by decide) rfl (fun ls hl => ?_)
                                                          obtain ⟨x322, ex322⟩ : ∃ y : Int32, y = v10_680 + 1 := ⟨_, rfl⟩
                                                          have tx322 : x322.toInt = v10_680.toInt + 1 := by rw [ex322]; exact z_add rfl (by decide : (1 : Int32).toInt = 1) (by omega) (by omega)
                                                          refine lv_iinc (v := x322) (lv' := [(10, .int x322), (5, .int 1), (12, .int r311), (11, .int r303), (9, .int r263), (8, .int 1), (7, .int v7_587), (6, .int v6_490), (3, .ref q1), (2, .ref (ad2 0)), (1, .ref (ad1 0)), (0, .ref b)]) hx hb dL_law_781 hl (k := 3) rfl (by rw [ex322]; rfl) (by decide) rfl (fun ls hl => ?_)
                                                          refine lv_goto (tgt := 680) hx hb dL_law_784 (by decide) ?_
                                                          exact ih680 x322 ct310 ct1_680 _ _ ls (by omega) (by first | omega | decide) hI315 hrel316 hI1_680 hr1_680 hP hD hS (lv_sub hl [0, 1, 4, 5, 6, 7, 8, 9, 10, 11] rfl)
                                                        · skip
                                                          have c321 : ¬ (r311.toInt < 0) := fun q => c321 ((z_lt rfl (by decide : (0 : Int32).toInt = 0)).mpr q)
                                                          refine lv_iload hx hb dL_law_746 (lv_at hl 4 rfl) ?_
                                                          refine lv_iload hx hb dL_law_748 (lv_at hl 2 rfl) ?_
                                                          refine lv_ishr hx hb dL_law_750 ?_
                                                          refine lv_topi (fun x323 ex323 => ?_)
                                                          refine lv_iconst (v := 1) hx hb dL_law_751 (by decide) ?_
                                                          refine lv_iand hx hb dL_law_752 ?_
                                                          refine lv_topi (fun x324 ex324 => ?_)
                                                          have tx324 := z_andr (x := x323) (y := 1) (by decide : (1 : Int32).toInt = 1) (by omega)
                                                          rw [← ex324] at tx324
                                                          refine lv_if_eq (tgt := 774) hx hb dL_law_753 (by decide) (fun c325 => ?_) (fun c325 => ?_)
                                                          · skip
                                                            have c325 : x324.toInt = 0 := (z_eq rfl (by decide : (0 : Int32).toInt = 0)).mp c325
                                                            refine lv_iconst (v := 1) hx hb dL_law_774 (by decide) ?_
                                                            refine lv_goto (tgt := 779) hx hb dL_law_775 (by decide) ?_
                                                            refine lv_istore (lv' := [(5, .int 1), (12, .int r311), (11, .int r303), (10, .int v10_680), (9, .int r263), (8, .int 1), (7, .int v7_587), (6, .int v6_490), (3, .ref q1), (2, .ref (ad2 0)), (1, .ref (ad1 0)), (0, .ref b)]) hx hb dL_law_779 hl (by decide) rfl (fun ls hl => ?_)
                                                            obtain ⟨x326, ex326⟩ : ∃ y : Int32, y = v10_680 + 1 := ⟨_, rfl⟩
                                                            have tx326 : x326.toInt = v10_680.toInt + 1 := by rw [ex326]; exact z_add rfl (by decide : (1 : Int32).toInt = 1) (by omega) (by omega)
                                                            refine lv_iinc (v := x326) (lv' := [(10, .int x326), (5, .int 1), (12, .int r311), (11, .int r303), (9, .int r263), (8, .int 1), (7, .int v7_587), (6, .int v6_490), (3, .ref q1), (2, .ref (ad2 0)), (1, .ref (ad1 0)), (0, .ref b)]) hx hb dL_law_781 hl (k := 3) rfl (by rw [ex326]; rfl) (by decide) rfl (fun ls hl => ?_)
                                                            refine lv_goto (tgt := 680) hx hb dL_law_784 (by decide) ?_
                                                            exact ih680 x326 ct310 ct1_680 _ _ ls (by omega) (by first | omega | decide) hI315 hrel316 hI1_680 hr1_680 hP hD hS (lv_sub hl [0, 1, 4, 5, 6, 7, 8, 9, 10, 11] rfl)
                                                          · skip
                                                            have c325 : ¬ (x324.toInt = 0) := fun q => c325 ((z_eq rfl (by decide : (0 : Int32).toInt = 0)).mpr q)
                                                            have hfb : ib r263 v10_680.toInt.toNat = true := by
                                                              rcases zb_askS (x := r263) (y := v10_680) (p := v10_680.toInt.toNat) (by omega) (by omega) (ex324.trans (by rw [ex323])) with ⟨q1, q2⟩ | ⟨q1, q2⟩
                                                              · exact q2
                                                              · exfalso
                                                                omega
                                                            obtain ⟨q9, hq1, hq2, hq3⟩ := lq_found (l := l) hI0_587 (b := v7_587) (i := v10_680) (by omega) (by omega) hsome (by rw [← hv317]; omega) (by rw [← hv269]; exact hfb)
                                                            have hwho : r311 = (1 : Int32) <<< (nI q9 &&& 31) := hv317.trans hq2
                                                            refine lv_aload_n hx hb dL_law_756 rfl (lv_at hl 10 rfl) ?_
                                                            refine lv_iload hx hb dL_law_757 (lv_at hl 6 rfl) ?_
                                                            refine lv_iload hx hb dL_law_759 (lv_at hl 2 rfl) ?_
                                                            refine lv_iload hx hb dL_law_761 (lv_at hl 0 rfl) ?_
                                                            refine LCS (n := 1) (As := [.int r311]) (rest := [.int v10_680, .int v7_587, .ref (ad1 0)]) (E := [(q1, .inl (g.2 0, 76, .inl rw88))]) (F := dW pAll ad159 ct1_680) (k_ntz l g 7 ct310 q9 hq1 r311 hwho hI315) (fun _ h => Bool.noConfusion h) rfl rfl hP hD hS hA hx hb hml hown hg hK hN mm_911 mm_912 mm_62 mm_913 (by decide +kernel) ⟨(Nat.le_of_ble_eq_true rfl), (Nat.le_of_ble_eq_true rfl)⟩ rfl (Nat.le_of_ble_eq_true rfl) dL_law_763 (show (((400 + (v6_490.toInt.toNat - 9)) + 1) + 1) ≤ 600000 by omega) (show (((9000 + 131072 * (v6_490.toInt.toNat - 9)) + 131072) + 131072) ≤ 7302250 by omega) hl.1 rfl (fun ct9 rrr327 hB hoff9 H locs hP hD hS => ?_)
                                                            obtain ⟨r327, rfl, hr327, rfl⟩ := hB
                                                            refine W.eq (g2 := F0 m 766 ls [.int r327, .int v10_680, .int v7_587, .ref (ad1 0)]) rfl ?_
                                                            refine lv_iconst (v := 1) hx hb dL_law_766 (by decide) ?_
                                                            obtain ⟨_, _, -, -, -, hs330⟩ := a8_0 hI315
                                                            refine LCV (n := 4) (As := [.int v7_587, .int v10_680, .int r327, .int 1]) (rest := []) (E := [(q1, .inl (g.2 0, 76, .inl rw88))]) (F := dW pAll ad159 ct1_680) (f_mustBe l g 7 ct310 v7_587 v10_680 r327 (1 : Int32)  hI315 ) (fun _ h => h) rfl rfl hP hD hS hA hx hb hml hown hg hK hN ⟨by decide, rfl⟩ hs330 mm_486 mm_487 mm_488 mm_52 mm_489 (by decide +kernel) ⟨(Nat.le_of_ble_eq_true rfl), (Nat.le_of_ble_eq_true rfl)⟩ rfl (Nat.le_of_ble_eq_true rfl) dL_law_767 (show (((400 + (v6_490.toInt.toNat - 9)) + 1) + 1) ≤ 600000 by omega) (show (((9000 + 131072 * (v6_490.toInt.toNat - 9)) + 131072) + 131072) ≤ 7302250 by omega) hl.1 (by first | (rw [hx154]; rfl) | (rw [← hx154]; rfl)) (fun ct328 rrr329 hB hoff331 H locs hP hD hS => ?_)
                                                            obtain ⟨r329, rfl, hr329, hI333, hcf332⟩ := hB
                                                            have hrel334 : ∀ q, ¬ dIn pM q → ct328 q = ct0_587 q := fun q hq => (hcf332 q hq).trans (hrel316 q hq)
                                                            refine W.eq (g2 := F0 m 770 ls [.int r329]) rfl ?_
                                                            obtain ⟨hr329, -⟩ := hr329
                                                            have hv335 : r329 = qMust l g 7 ct0_587 v7_587 v10_680 r327 (1 : Int32) := hr329.trans (qMust_o hrel316 (gix_rg hI0_587))
                                                            refine lv_iconst (v := 2) hx hb dL_law_770 (by decide) ?_
                                                            have hz771 : r329.toInt = 2 := by rw [hv335, hr327, hq3]; decide
                                                            refine lv_icmp_ne (tgt := 778) hx hb dL_law_771 (by decide) (fun c336 => ?_) (fun c336 => ?_)
                                                            · skip
                                                              have c336 : ¬ (r329.toInt = 2) := fun q => c336 ((z_eq rfl (by decide : (2 : Int32).toInt = 2)).mpr q)
                                                              have h2 : (2 : Int32).toInt = 2 := (by decide)
                                                              exfalso
                                                              omega
                                                            · skip
                                                              have c336 : r329.toInt = 2 := (z_eq rfl (by decide : (2 : Int32).toInt = 2)).mp c336
                                                              refine lv_iconst (v := 1) hx hb dL_law_774 (by decide) ?_
                                                              refine lv_goto (tgt := 779) hx hb dL_law_775 (by decide) ?_
                                                              refine lv_istore (lv' := [(5, .int 1), (12, .int r311), (11, .int r303), (10, .int v10_680), (9, .int r263), (8, .int 1), (7, .int v7_587), (6, .int v6_490), (3, .ref q1), (2, .ref (ad2 0)), (1, .ref (ad1 0)), (0, .ref b)]) hx hb dL_law_779 hl (by decide) rfl (fun ls hl => ?_)
                                                              obtain ⟨x337, ex337⟩ : ∃ y : Int32, y = v10_680 + 1 := ⟨_, rfl⟩
                                                              have tx337 : x337.toInt = v10_680.toInt + 1 := by rw [ex337]; exact z_add rfl (by decide : (1 : Int32).toInt = 1) (by omega) (by omega)
                                                              refine lv_iinc (v := x337) (lv' := [(10, .int x337), (5, .int 1), (12, .int r311), (11, .int r303), (9, .int r263), (8, .int 1), (7, .int v7_587), (6, .int v6_490), (3, .ref q1), (2, .ref (ad2 0)), (1, .ref (ad1 0)), (0, .ref b)]) hx hb dL_law_781 hl (k := 3) rfl (by rw [ex337]; rfl) (by decide) rfl (fun ls hl => ?_)
                                                              refine lv_goto (tgt := 680) hx hb dL_law_784 (by decide) ?_
                                                              exact ih680 x337 ct328 ct1_680 _ _ ls (by omega) (by first | omega | decide) hI333 hrel334 hI1_680 hr1_680 hP hD hS (lv_sub hl [0, 1, 4, 5, 6, 7, 8, 9, 10, 11] rfl)
                                                    · skip
                                                      have c319 : ¬ (r303.toInt < 0) := fun q => c319 ((z_lt rfl (by decide : (0 : Int32).toInt = 0)).mpr q)
                                                      refine lv_aload_n hx hb dL_law_718 rfl (lv_at hl 10 rfl) ?_
                                                      refine lv_iload hx hb dL_law_719 (lv_at hl 6 rfl) ?_
                                                      refine lv_iload hx hb dL_law_721 (lv_at hl 2 rfl) ?_
                                                      refine lv_bipush (v := 15) hx hb dL_law_723 (by decide) ?_
                                                      obtain ⟨_, _, -, -, -, hs340⟩ := a8_0 hI315
                                                      refine LCV (n := 3) (As := [.int v7_587, .int v10_680, .int 15]) (rest := []) (E := [(q1, .inl (g.2 0, 76, .inl rw88))]) (F := dW pAll ad159 ct1_680) (f_fits l g 7 ct310 v7_587 v10_680 (15 : Int32)  hI315 ) (fun _ h => h) rfl rfl hP hD hS hA hx hb hml hown hg hK hN ⟨by decide, rfl⟩ hs340 mm_407 mm_408 mm_409 mm_52 mm_410 (by decide +kernel) ⟨(Nat.le_of_ble_eq_true rfl), (Nat.le_of_ble_eq_true rfl)⟩ rfl (Nat.le_of_ble_eq_true rfl) dL_law_725 (show (((400 + (v6_490.toInt.toNat - 9)) + 1) + 1) ≤ 600000 by omega) (show (((9000 + 131072 * (v6_490.toInt.toNat - 9)) + 131072) + 131072) ≤ 7302250 by omega) hl.1 (by first | (rw [hx154]; rfl) | (rw [← hx154]; rfl)) (fun ct338 rrr339 hB hoff341 H locs hP hD hS => ?_)
                                                      obtain ⟨r339, rfl, hr339, hI343, hcf342⟩ := hB
                                                      have hrel344 : ∀ q, ¬ dIn pM q → ct338 q = ct0_587 q := fun q hq => (hcf342 q hq).trans (hrel316 q hq)
                                                      refine W.eq (g2 := F0 m 728 ls [.int r339]) rfl ?_
                                                      obtain ⟨hr339, -⟩ := hr339
                                                      have hv345 : r339 = qFits l g 7 ct0_587 v7_587 v10_680 (15 : Int32) := hr339.trans (qFits_o hrel316 (gix_rg hI0_587))
                                                      refine lv_iload hx hb dL_law_728 (lv_at hl 1 rfl) ?_
                                                      refine lv_iconst (v := (-1)) hx hb dL_law_730 (by decide) ?_
                                                      refine lv_ixor hx hb dL_law_731 ?_
                                                      refine lv_topi (fun x346 ex346 => ?_)
                                                      refine lv_iand hx hb dL_law_732 ?_
                                                      refine lv_topi (fun x347 ex347 => ?_)
                                                      have hz733 : x347.toInt = 0 := by rw [ex347, ex346, hv345, hv309]; exact q_fits (by decide) (by rw [← hv309]; omega)
                                                      refine lv_if_ne (tgt := 778) hx hb dL_law_733 (by decide) (fun c348 => ?_) (fun c348 => ?_)
                                                      · skip
                                                        have c348 : ¬ (x347.toInt = 0) := fun q => c348 ((z_eq rfl (by decide : (0 : Int32).toInt = 0)).mpr q)
                                                        exfalso
                                                        omega
                                                      · skip
                                                        have c348 : x347.toInt = 0 := (z_eq rfl (by decide : (0 : Int32).toInt = 0)).mp c348
                                                        refine lv_iload hx hb dL_law_736 (lv_at hl 5 rfl) ?_
                                                        refine lv_if_eq (tgt := 774) hx hb dL_law_738 (by decide) (fun c349 => ?_) (fun c349 => ?_)
                                                        · skip
                                                          exact absurd c349 (by decide)
                                                        · skip
                                                          refine lv_iload hx hb dL_law_741 (lv_at hl 0 rfl) ?_
                                                          refine lv_if_lt (tgt := 774) hx hb dL_law_743 (by decide) (fun c350 => ?_) (fun c350 => ?_)
                                                          · skip
                                                            have c350 : r311.toInt < 0 := (z_lt rfl (by decide : (0 : Int32).toInt = 0)).mp c350
                                                            refine lv_iconst (v := 1) hx hb dL_law_774 (by decide) ?_
                                                            refine lv_goto (tgt := 779) hx hb dL_law_775 (by decide) ?_
                                                            refine lv_istore (lv' := [(5, .int 1), (12, .int r311), (11, .int r303), (10, .int v10_680), (9, .int r263), (8, .int 1), (7, .int v7_587), (6, .int v6_490), (3, .ref q1), (2, .ref (ad2 0)), (1, .ref (ad1 0)), (0, .ref b)]) hx hb dL_law_779 hl (by decide) rfl (fun ls hl => ?_)
                                                            obtain ⟨x351, ex351⟩ : ∃ y : Int32, y = v10_680 + 1 := ⟨_, rfl⟩
                                                            have tx351 : x351.toInt = v10_680.toInt + 1 := by rw [ex351]; exact z_add rfl (by decide : (1 : Int32).toInt = 1) (by omega) (by omega)
                                                            refine lv_iinc (v := x351) (lv' := [(10, .int x351), (5, .int 1), (12, .int r311), (11, .int r303), (9, .int r263), (8, .int 1), (7, .int v7_587), (6, .int v6_490), (3, .ref q1), (2, .ref (ad2 0)), (1, .ref (ad1 0)), (0, .ref b)]) hx hb dL_law_781 hl (k := 3) rfl (by rw [ex351]; rfl) (by decide) rfl (fun ls hl => ?_)
                                                            refine lv_goto (tgt := 680) hx hb dL_law_784 (by decide) ?_
                                                            exact ih680 x351 ct338 ct1_680 _ _ ls (by omega) (by first | omega | decide) hI343 hrel344 hI1_680 hr1_680 hP hD hS (lv_sub hl [0, 1, 4, 5, 6, 7, 8, 9, 10, 11] rfl)
                                                          · skip
                                                            have c350 : ¬ (r311.toInt < 0) := fun q => c350 ((z_lt rfl (by decide : (0 : Int32).toInt = 0)).mpr q)
                                                            refine lv_iload hx hb dL_law_746 (lv_at hl 4 rfl) ?_
                                                            refine lv_iload hx hb dL_law_748 (lv_at hl 2 rfl) ?_
                                                            refine lv_ishr hx hb dL_law_750 ?_
                                                            refine lv_topi (fun x352 ex352 => ?_)
                                                            refine lv_iconst (v := 1) hx hb dL_law_751 (by decide) ?_
                                                            refine lv_iand hx hb dL_law_752 ?_
                                                            refine lv_topi (fun x353 ex353 => ?_)
                                                            have tx353 := z_andr (x := x352) (y := 1) (by decide : (1 : Int32).toInt = 1) (by omega)
                                                            rw [← ex353] at tx353
                                                            refine lv_if_eq (tgt := 774) hx hb dL_law_753 (by decide) (fun c354 => ?_) (fun c354 => ?_)
                                                            · skip
                                                              have c354 : x353.toInt = 0 := (z_eq rfl (by decide : (0 : Int32).toInt = 0)).mp c354
                                                              refine lv_iconst (v := 1) hx hb dL_law_774 (by decide) ?_
                                                              refine lv_goto (tgt := 779) hx hb dL_law_775 (by decide) ?_
                                                              refine lv_istore (lv' := [(5, .int 1), (12, .int r311), (11, .int r303), (10, .int v10_680), (9, .int r263), (8, .int 1), (7, .int v7_587), (6, .int v6_490), (3, .ref q1), (2, .ref (ad2 0)), (1, .ref (ad1 0)), (0, .ref b)]) hx hb dL_law_779 hl (by decide) rfl (fun ls hl => ?_)
                                                              obtain ⟨x355, ex355⟩ : ∃ y : Int32, y = v10_680 + 1 := ⟨_, rfl⟩
                                                              have tx355 : x355.toInt = v10_680.toInt + 1 := by rw [ex355]; exact z_add rfl (by decide : (1 : Int32).toInt = 1) (by omega) (by omega)
                                                              refine lv_iinc (v := x355) (lv' := [(10, .int x355), (5, .int 1), (12, .int r311), (11, .int r303), (9, .int r263), (8, .int 1), (7, .int v7_587), (6, .int v6_490), (3, .ref q1), (2, .ref (ad2 0)), (1, .ref (ad1 0)), (0, .ref b)]) hx hb dL_law_781 hl (k := 3) rfl (by rw [ex355]; rfl) (by decide) rfl (fun ls hl => ?_)
                                                              refine lv_goto (tgt := 680) hx hb dL_law_784 (by decide) ?_
                                                              exact ih680 x355 ct338 ct1_680 _ _ ls (by omega) (by first | omega | decide) hI343 hrel344 hI1_680 hr1_680 hP hD hS (lv_sub hl [0, 1, 4, 5, 6, 7, 8, 9, 10, 11] rfl)
                                                            · skip
                                                              have c354 : ¬ (x353.toInt = 0) := fun q => c354 ((z_eq rfl (by decide : (0 : Int32).toInt = 0)).mpr q)
                                                              have hfb : ib r263 v10_680.toInt.toNat = true := by
                                                                rcases zb_askS (x := r263) (y := v10_680) (p := v10_680.toInt.toNat) (by omega) (by omega) (ex353.trans (by rw [ex352])) with ⟨q1, q2⟩ | ⟨q1, q2⟩
                                                                · exact q2
                                                                · exfalso
                                                                  omega
                                                              obtain ⟨q9, hq1, hq2, hq3⟩ := lq_found (l := l) hI0_587 (b := v7_587) (i := v10_680) (by omega) (by omega) hsome (by rw [← hv317]; omega) (by rw [← hv269]; exact hfb)
                                                              have hwho : r311 = (1 : Int32) <<< (nI q9 &&& 31) := hv317.trans hq2
                                                              refine lv_aload_n hx hb dL_law_756 rfl (lv_at hl 10 rfl) ?_
                                                              refine lv_iload hx hb dL_law_757 (lv_at hl 6 rfl) ?_
                                                              refine lv_iload hx hb dL_law_759 (lv_at hl 2 rfl) ?_
                                                              refine lv_iload hx hb dL_law_761 (lv_at hl 0 rfl) ?_
                                                              refine LCS (n := 1) (As := [.int r311]) (rest := [.int v10_680, .int v7_587, .ref (ad1 0)]) (E := [(q1, .inl (g.2 0, 76, .inl rw88))]) (F := dW pAll ad159 ct1_680) (k_ntz l g 7 ct338 q9 hq1 r311 hwho hI343) (fun _ h => Bool.noConfusion h) rfl rfl hP hD hS hA hx hb hml hown hg hK hN mm_911 mm_912 mm_62 mm_913 (by decide +kernel) ⟨(Nat.le_of_ble_eq_true rfl), (Nat.le_of_ble_eq_true rfl)⟩ rfl (Nat.le_of_ble_eq_true rfl) dL_law_763 (show (((400 + (v6_490.toInt.toNat - 9)) + 1) + 1) ≤ 600000 by omega) (show (((9000 + 131072 * (v6_490.toInt.toNat - 9)) + 131072) + 131072) ≤ 7302250 by omega) hl.1 rfl (fun ct9 rrr356 hB hoff9 H locs hP hD hS => ?_)
                                                              obtain ⟨r356, rfl, hr356, rfl⟩ := hB
                                                              refine W.eq (g2 := F0 m 766 ls [.int r356, .int v10_680, .int v7_587, .ref (ad1 0)]) rfl ?_
                                                              refine lv_iconst (v := 1) hx hb dL_law_766 (by decide) ?_
                                                              obtain ⟨_, _, -, -, -, hs359⟩ := a8_0 hI343
                                                              refine LCV (n := 4) (As := [.int v7_587, .int v10_680, .int r356, .int 1]) (rest := []) (E := [(q1, .inl (g.2 0, 76, .inl rw88))]) (F := dW pAll ad159 ct1_680) (f_mustBe l g 7 ct338 v7_587 v10_680 r356 (1 : Int32)  hI343 ) (fun _ h => h) rfl rfl hP hD hS hA hx hb hml hown hg hK hN ⟨by decide, rfl⟩ hs359 mm_486 mm_487 mm_488 mm_52 mm_489 (by decide +kernel) ⟨(Nat.le_of_ble_eq_true rfl), (Nat.le_of_ble_eq_true rfl)⟩ rfl (Nat.le_of_ble_eq_true rfl) dL_law_767 (show (((400 + (v6_490.toInt.toNat - 9)) + 1) + 1) ≤ 600000 by omega) (show (((9000 + 131072 * (v6_490.toInt.toNat - 9)) + 131072) + 131072) ≤ 7302250 by omega) hl.1 (by first | (rw [hx154]; rfl) | (rw [← hx154]; rfl)) (fun ct357 rrr358 hB hoff360 H locs hP hD hS => ?_)
                                                              obtain ⟨r358, rfl, hr358, hI362, hcf361⟩ := hB
                                                              have hrel363 : ∀ q, ¬ dIn pM q → ct357 q = ct0_587 q := fun q hq => (hcf361 q hq).trans (hrel344 q hq)
                                                              refine W.eq (g2 := F0 m 770 ls [.int r358]) rfl ?_
                                                              obtain ⟨hr358, -⟩ := hr358
                                                              have hv364 : r358 = qMust l g 7 ct0_587 v7_587 v10_680 r356 (1 : Int32) := hr358.trans (qMust_o hrel344 (gix_rg hI0_587))
                                                              refine lv_iconst (v := 2) hx hb dL_law_770 (by decide) ?_
                                                              have hz771 : r358.toInt = 2 := by rw [hv364, hr356, hq3]; decide
                                                              refine lv_icmp_ne (tgt := 778) hx hb dL_law_771 (by decide) (fun c365 => ?_) (fun c365 => ?_)
                                                              · skip
                                                                have c365 : ¬ (r358.toInt = 2) := fun q => c365 ((z_eq rfl (by decide : (2 : Int32).toInt = 2)).mpr q)
                                                                have h2 : (2 : Int32).toInt = 2 := (by decide)
                                                                exfalso
                                                                omega
                                                              · skip
                                                                have c365 : r358.toInt = 2 := (z_eq rfl (by decide : (2 : Int32).toInt = 2)).mp c365
                                                                refine lv_iconst (v := 1) hx hb dL_law_774 (by decide) ?_
                                                                refine lv_goto (tgt := 779) hx hb dL_law_775 (by decide) ?_
                                                                refine lv_istore (lv' := [(5, .int 1), (12, .int r311), (11, .int r303), (10, .int v10_680), (9, .int r263), (8, .int 1), (7, .int v7_587), (6, .int v6_490), (3, .ref q1), (2, .ref (ad2 0)), (1, .ref (ad1 0)), (0, .ref b)]) hx hb dL_law_779 hl (by decide) rfl (fun ls hl => ?_)
                                                                obtain ⟨x366, ex366⟩ : ∃ y : Int32, y = v10_680 + 1 := ⟨_, rfl⟩
                                                                have tx366 : x366.toInt = v10_680.toInt + 1 := by rw [ex366]; exact z_add rfl (by decide : (1 : Int32).toInt = 1) (by omega) (by omega)
                                                                refine lv_iinc (v := x366) (lv' := [(10, .int x366), (5, .int 1), (12, .int r311), (11, .int r303), (9, .int r263), (8, .int 1), (7, .int v7_587), (6, .int v6_490), (3, .ref q1), (2, .ref (ad2 0)), (1, .ref (ad1 0)), (0, .ref b)]) hx hb dL_law_781 hl (k := 3) rfl (by rw [ex366]; rfl) (by decide) rfl (fun ls hl => ?_)
                                                                refine lv_goto (tgt := 680) hx hb dL_law_784 (by decide) ?_
                                                                exact ih680 x366 ct357 ct1_680 _ _ ls (by omega) (by first | omega | decide) hI362 hrel363 hI1_680 hr1_680 hP hD hS (lv_sub hl [0, 1, 4, 5, 6, 7, 8, 9, 10, 11] rfl)
                                            exact loop680 ((5 - (0 : Int32).toInt : Int).toNat + 1) (0 : Int32) ct289 ct1_587 _ _ ls (by omega) (by first | omega | decide) hI294 hrel295 hI1_587 hp_587 hP hD hS (lv_sub hl [0, 1, 2, 3, 4, 5, 6, 7, 8, 9] rfl)
                            exact loop587 ((2 - (0 : Int32).toInt : Int).toNat + 1) (0 : Int32) ct168 ct169 _ _ ls (by omega) (by first | omega | decide) hI170 hI171 (fun q hq => (hrel175 q hq).trans (hrel174 q hq).symm) hP hD hS (lv_sub hl [0, 1, 2, 3, 4, 5, 6] rfl)
                      refine lv_aload_n hx hb dL_law_511 rfl (lv_at hl 5 rfl) ?_
                      refine lv_iload hx hb dL_law_512 (lv_at hl 0 rfl) ?_
                      refine lv_iconst (v := 1) hx hb dL_law_514 (by decide) ?_
                      refine lv_iadd hx hb dL_law_515 ?_
                      rw [← ex141]
                      refine va_sld hx hb hX hbl hbA hS (z_in rfl (by omega) (by omega)) dL_law_516 ?_
                      refine lv_topi (fun y367 ey367 => ?_)
                      refine lv_iconst (v := (-1)) hx hb dL_law_517 (by decide) ?_
                      refine lv_icmp_eq (tgt := 534) hx hb dL_law_518 (by decide) (fun c368 => ?_) (fun c368 => ?_)
                      · skip
                        have c368 : y367.toInt = (-1) := (z_eq rfl (by decide : ((-1) : Int32).toInt = (-1))).mp c368
                        exact hj534 ct0_490 ct1_490 _ _ ls hI0_490 (fun _ _ => rfl) hI1_490 hp_490 hP hD hS hl
                      · skip
                        have c368 : ¬ (y367.toInt = (-1)) := fun q => c368 ((z_eq rfl (by decide : ((-1) : Int32).toInt = (-1))).mpr q)
                        refine lv_aload_n hx hb dL_law_521 rfl (lv_at hl 3 rfl) ?_
                        refine lv_aload_n hx hb dL_law_522 rfl (lv_at hl 5 rfl) ?_
                        refine lv_iload hx hb dL_law_523 (lv_at hl 0 rfl) ?_
                        refine lv_iconst (v := 1) hx hb dL_law_525 (by decide) ?_
                        refine lv_iadd hx hb dL_law_526 ?_
                        rw [← ex141]
                        refine va_sld hx hb hX hbl hbA hS (z_in rfl (by omega) (by omega)) dL_law_527 ?_
                        rw [← ey367]
                        have hP := zP_perm pm_2 hP
                        have hD := zD_perm pm_2 hD
                        refine LCS (n := 2) (As := [.ref 0, .int y367]) (rest := []) (E := ([(q1, .inl (g.2 0, 76, .inl rw88))] ++ dW pAll ad0_490 ct0_490)) (F := []) (f_idle l g 7 ct1_490 y367  hI1_490 ) (fun _ h => h) rfl rfl hP hD hS hA hx hb hml hown hg hK hN mm_848 mm_849 mm_51 mm_850 (by decide +kernel) ⟨(Nat.le_of_ble_eq_true rfl), (Nat.le_of_ble_eq_true rfl)⟩ rfl (Nat.le_of_ble_eq_true rfl) dL_law_528 (show (400 + (v6_490.toInt.toNat - 9)) ≤ 600000 by omega) (show (9000 + 131072 * (v6_490.toInt.toNat - 9)) ≤ 7302250 by omega) hl.1 (by first | (rw [hx1_490]; rfl) | (rw [← hx1_490]; rfl)) (fun ct369 rrr370 hB hoff371 H locs hP hD hS => ?_)
                        have hP := zP_perm pm_2.symm hP
                        have hD := zD_perm pm_2.symm hD
                        obtain ⟨r370, rfl, hr370, hI373, hcf372⟩ := hB
                        have hrel374 : ∀ q, ¬ dIn pM q → ct369 q = ct0_490 q := fun q hq => (hcf372 q hq).trans (hp_490 q hq)
                        refine W.eq (g2 := F0 m 531 ls [.int r370]) rfl ?_
                        obtain rfl := hr370
                        refine lv_if_eq (tgt := 581) hx hb dL_law_531 (by decide) (fun c375 => ?_) (fun c375 => ?_)
                        · skip
                          exact absurd c375 (by decide)
                        · skip
                          exact hj534 ct0_490 ct369 _ _ ls hI0_490 (fun _ _ => rfl) hI373 hrel374 hP hD hS hl
            refine W.widen (k := (400 + ((9 : Int32).toInt.toNat - 9))) (n := (9000 + 131072 * ((9 : Int32).toInt.toNat - 9))) (by first | omega | decide) (by first | omega | decide) ?_
            exact loop490 ((26 - (9 : Int32).toInt : Int).toNat + 1) (9 : Int32) ad1 ad2 ct119 ct130 _ _ ls (by omega) (by first | omega | decide) hI126 rfl hI137 rfl (fun q hq => (hrel138 q hq).trans (hrel127 q hq).symm) hP hD hS (lv_sub hl [0, 1, 3, 4, 5, 6] rfl)
